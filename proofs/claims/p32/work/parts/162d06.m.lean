set_option maxHeartbeats 4000000 in
set_option maxRecDepth 20000 in
/-- Told.settle -/
theorem m_70_r39_26 (σ : jM) (hg : GI σ) (al : Int64) (pre0 : (σ.1 39 5) ≤ 10) (fr lo : Nat) (hfr : 0 ≤ fr) (hlo : 0 ≤ lo) : WP 70 0 (lv_args 0 [.ref 39, .long al, .ref 26]) [] fr lo σ (fun v τ => v = none ∧ GI τ ∧ FR WT39 σ τ ∧ ((τ.1 39 5) = (σ.1 39 5))) := by
  show WP 70 0 [(0, .ref 39), (1, .long al), (3, .ref 26)] [] _ _ _ _
  refine wp_ic jF_70_0 rfl (pc2 := 1) ?_
  refine wp_is2 (lv2 := [(0, .ref 39), (1, .long al), (3, .ref 26), (4, iV 0)]) jF_70_1 rfl rfl rfl (pc2 := 3) ?_
  have b1 := GI.b hg 39 5 kd39 (lo := 0) (hi := 16) rfl
  refine wp_loop (α := Int) (fun a => [(0, .ref 39), (1, .long al), (3, .ref 26), (4, iV (a))]) (fun a τ => (0 ≤ a ∧ a ≤ 10) ∧ GI τ ∧ FR WT39 σ τ ∧ ((τ.1 39 5) = (σ.1 39 5)) ∧ ((a) ≤ (σ.1 39 5))) (fun a τ => Int.toNat (10 - (a))) (0) σ ?_ ?_
  · skip
    exact ⟨⟨by omega, by omega⟩, hg, FR.rf, (by omega), (by omega)⟩
  · rintro x2 τ4 ⟨h3, g5, f6, p7, p8⟩ ih9
    have b10 := GI.b g5 39 5 kd39 (lo := 0) (hi := 16) rfl
    show WP 70 3 [(0, .ref 39), (1, .long al), (3, .ref 26), (4, iV x2)] [] _ _ _ _
    show WP 70 3 [(0, .ref 39), (1, .long al), (3, .ref 26), (4, iV x2)] [] _ _ _ _
    refine wp_il2 jF_70_3 rfl rfl (pc2 := 5) ?_
    refine wp_al1 jF_70_5 rfl rfl (pc2 := 6) ?_
    refine wp_gi jF_70_6 kd39 (by decide) rfl rfl rfl (pc2 := 9) ?_
    refine wp_i_ge jF_70_9 (m_rgb h3 rfl) (m_rgb b10 rfl) rfl (pc2 := 12) ?_ ?_
    · intro h11
      refine wp_rv jF_70_144 ?_
      exact ⟨rfl, g5, f6, (by omega)⟩
    · intro h11
      refine wp_al1 jF_70_12 rfl rfl (pc2 := 13) ?_
      refine wp_gr (b := 44) jF_70_13 kd39 (by decide) (c := 8) rfl rfl rfl (pc2 := 16) ?_
      refine wp_il2 jF_70_16 rfl rfl (pc2 := 18) ?_
      refine wp_ll1 jF_70_18 rfl rfl (pc2 := 19) ?_
      refine wp_last (n := 10) jF_70_19 kd44 (by decide) rfl rfl (by omega) (by omega) rfl (pc2 := 20) g5 ?_
      intro τ12 g13 f14
      refine wp_il2 jF_70_20 rfl rfl (pc2 := 22) ?_
      refine wp_ic jF_70_22 rfl (pc2 := 23) ?_
      refine wp_mul jF_70_23 rfl (pc2 := 24) ?_
      refine wp_is2 (lv2 := [(0, .ref 39), (1, .long al), (3, .ref 26), (4, iV x2), (5, iV (x2 * 3))]) jF_70_24 rfl rfl rfl (pc2 := 26) ?_
      have q15 : (τ12.1 39 5) = (τ4.1 39 5) := (FRw.na f14 (by decide))
      refine wp_loop (α := Int) (fun a => [(0, .ref 39), (1, .long al), (3, .ref 26), (4, iV x2), (5, iV (a))]) (fun a τ => (0 ≤ a ∧ a ≤ 30) ∧ GI τ ∧ FR WT39 τ12 τ ∧ ((τ.1 39 5) = (τ12.1 39 5)) ∧ (3 * x2 ≤ (a)) ∧ ((a) ≤ 3 * x2 + 3)) (fun a τ => Int.toNat (3 * x2 + 3 - (a))) ((x2 * 3)) τ12 ?_ ?_
      · skip
        exact ⟨⟨by omega, by omega⟩, g13, FR.rf, (by omega), (by omega), (by omega)⟩
      · rintro x16 τ18 ⟨h17, g19, f20, p21, p22, p23⟩ ih24
        have b25 := GI.b g19 39 5 kd39 (lo := 0) (hi := 16) rfl
        show WP 70 26 [(0, .ref 39), (1, .long al), (3, .ref 26), (4, iV x2), (5, iV x16)] [] _ _ _ _
        show WP 70 26 [(0, .ref 39), (1, .long al), (3, .ref 26), (4, iV x2), (5, iV x16)] [] _ _ _ _
        refine wp_il2 jF_70_26 rfl rfl (pc2 := 28) ?_
        refine wp_il2 jF_70_28 rfl rfl (pc2 := 30) ?_
        refine wp_ic jF_70_30 rfl (pc2 := 31) ?_
        refine wp_add jF_70_31 rfl (pc2 := 32) ?_
        refine wp_ic jF_70_32 rfl (pc2 := 33) ?_
        refine wp_mul jF_70_33 rfl (pc2 := 34) ?_
        refine wp_i_ge jF_70_34 (m_rgb h17 rfl) ⟨by omega, by omega⟩ rfl (pc2 := 37) ?_ ?_
        · intro h26
          refine wp_al1 jF_70_78 rfl rfl (pc2 := 79) ?_
          refine wp_dup jF_70_79 rfl rfl (pc2 := 80) ?_
          refine wp_glA jF_70_80 kd39 (by decide) rfl rfl (pc2 := 83) ?_
          intro y27
          refine wp_al1 jF_70_83 rfl rfl (pc2 := 84) ?_
          refine wp_gr (b := 40) jF_70_84 kd39 (by decide) (c := 4) rfl rfl rfl (pc2 := 87) ?_
          refine wp_il2 jF_70_87 rfl rfl (pc2 := 89) ?_
          have b28 := GI.b g19 40 x2.toNat kd40 (lo := 0) (hi := 1) rfl
          refine wp_bald (n := 10) (e := (τ18.1 40 x2.toNat)) jF_70_89 kd40 (by decide) rfl rfl (by omega) (by omega) rfl rfl (pc2 := 90) ?_
          refine wp_z_eq jF_70_90 (m_rgb b28 rfl) rfl (pc2 := 93) ?_ ?_
          · intro h29
            refine wp_lc jF_70_103 rfl (pc2 := 104) ?_
            refine wp_lng (pc2 := 105) jF_70_104 rfl rfl ?_
            intro y30
            refine wp_pl jF_70_105 kd39 (by decide) rfl rfl (pc2 := 108) g19 ?_
            intro τ31 g32 f33
            refine wp_al1 jF_70_108 rfl rfl (pc2 := 109) ?_
            refine wp_dup jF_70_109 rfl rfl (pc2 := 110) ?_
            refine wp_glA jF_70_110 kd39 (by decide) rfl rfl (pc2 := 113) ?_
            intro y34
            refine wp_al1 jF_70_113 rfl rfl (pc2 := 114) ?_
            refine wp_gr (b := 40) jF_70_114 kd39 (by decide) (c := 4) rfl rfl rfl (pc2 := 117) ?_
            refine wp_il2 jF_70_117 rfl rfl (pc2 := 119) ?_
            refine wp_bald (n := 10) (e := (τ18.1 40 x2.toNat)) jF_70_119 kd40 (by decide) rfl rfl (by omega) (by omega) (FRw.na f33 (by decide)) rfl (pc2 := 120) ?_
            refine wp_z_eq jF_70_120 (m_rgb b28 rfl) rfl (pc2 := 123) ?_ ?_
            · intro h35
              refine wp_al1 jF_70_127 rfl rfl (pc2 := 128) ?_
              refine wp_gr (b := 44) jF_70_128 kd39 (by decide) (c := 8) rfl rfl rfl (pc2 := 131) ?_
              refine wp_il2 jF_70_131 rfl rfl (pc2 := 133) ?_
              refine wp_lald (n := 10) jF_70_133 kd44 (by decide) rfl rfl (by omega) (by omega) rfl (pc2 := 134) ?_
              intro y36
              refine wp_lng (pc2 := 135) jF_70_134 rfl rfl ?_
              intro y37
              refine wp_pl jF_70_135 kd39 (by decide) rfl rfl (pc2 := 138) g32 ?_
              intro τ38 g39 f40
              refine wp_inc (lv2 := [(0, .ref 39), (1, .long al), (3, .ref 26), (4, iV (x2 + 1)), (5, iV x16)]) jF_70_138 rfl rfl rfl rfl (pc2 := 141) ?_
              refine wp_go jF_70_141 ?_
              have q41 : (τ38.1 39 5) = (τ18.1 39 5) := ((FRw.nj f40 (by decide)).trans (FRw.nj f33 (by decide)))
              refine wp_less [0, 1, 3, 4] (lv2 := [(0, .ref 39), (1, .long al), (3, .ref 26), (4, iV (x2 + 1))]) rfl rfl ?_
              exact ih9 ((x2 + 1)) τ38 ⟨⟨by omega, by omega⟩, g39, (FR.w (FR.w (FR.up (FR.w f6 f14 rfl) f20 sb_WT39_WT39) f33 rfl) f40 rfl), (by omega), (by omega)⟩ (by show Int.toNat (10 - (x2 + 1)) < Int.toNat (10 - x2); omega)
            · intro h35
              refine wp_lc jF_70_123 rfl (pc2 := 124) ?_
              refine wp_go jF_70_124 ?_
              refine wp_lng (pc2 := 135) jF_70_134 rfl rfl ?_
              intro y42
              refine wp_pl jF_70_135 kd39 (by decide) rfl rfl (pc2 := 138) g32 ?_
              intro τ43 g44 f45
              refine wp_inc (lv2 := [(0, .ref 39), (1, .long al), (3, .ref 26), (4, iV (x2 + 1)), (5, iV x16)]) jF_70_138 rfl rfl rfl rfl (pc2 := 141) ?_
              refine wp_go jF_70_141 ?_
              have q46 : (τ43.1 39 5) = (τ18.1 39 5) := ((FRw.nj f45 (by decide)).trans (FRw.nj f33 (by decide)))
              refine wp_less [0, 1, 3, 4] (lv2 := [(0, .ref 39), (1, .long al), (3, .ref 26), (4, iV (x2 + 1))]) rfl rfl ?_
              exact ih9 ((x2 + 1)) τ43 ⟨⟨by omega, by omega⟩, g44, (FR.w (FR.w (FR.up (FR.w f6 f14 rfl) f20 sb_WT39_WT39) f33 rfl) f45 rfl), (by omega), (by omega)⟩ (by show Int.toNat (10 - (x2 + 1)) < Int.toNat (10 - x2); omega)
          · intro h29
            refine wp_al1 jF_70_93 rfl rfl (pc2 := 94) ?_
            refine wp_gr (b := 44) jF_70_94 kd39 (by decide) (c := 8) rfl rfl rfl (pc2 := 97) ?_
            refine wp_il2 jF_70_97 rfl rfl (pc2 := 99) ?_
            refine wp_lald (n := 10) jF_70_99 kd44 (by decide) rfl rfl (by omega) (by omega) rfl (pc2 := 100) ?_
            intro y47
            refine wp_go jF_70_100 ?_
            refine wp_lng (pc2 := 105) jF_70_104 rfl rfl ?_
            intro y48
            refine wp_pl jF_70_105 kd39 (by decide) rfl rfl (pc2 := 108) g19 ?_
            intro τ49 g50 f51
            refine wp_al1 jF_70_108 rfl rfl (pc2 := 109) ?_
            refine wp_dup jF_70_109 rfl rfl (pc2 := 110) ?_
            refine wp_glA jF_70_110 kd39 (by decide) rfl rfl (pc2 := 113) ?_
            intro y52
            refine wp_al1 jF_70_113 rfl rfl (pc2 := 114) ?_
            refine wp_gr (b := 40) jF_70_114 kd39 (by decide) (c := 4) rfl rfl rfl (pc2 := 117) ?_
            refine wp_il2 jF_70_117 rfl rfl (pc2 := 119) ?_
            refine wp_bald (n := 10) (e := (τ18.1 40 x2.toNat)) jF_70_119 kd40 (by decide) rfl rfl (by omega) (by omega) (FRw.na f51 (by decide)) rfl (pc2 := 120) ?_
            refine wp_z_eq jF_70_120 (m_rgb b28 rfl) rfl (pc2 := 123) ?_ ?_
            · intro h53
              refine wp_al1 jF_70_127 rfl rfl (pc2 := 128) ?_
              refine wp_gr (b := 44) jF_70_128 kd39 (by decide) (c := 8) rfl rfl rfl (pc2 := 131) ?_
              refine wp_il2 jF_70_131 rfl rfl (pc2 := 133) ?_
              refine wp_lald (n := 10) jF_70_133 kd44 (by decide) rfl rfl (by omega) (by omega) rfl (pc2 := 134) ?_
              intro y54
              refine wp_lng (pc2 := 135) jF_70_134 rfl rfl ?_
              intro y55
              refine wp_pl jF_70_135 kd39 (by decide) rfl rfl (pc2 := 138) g50 ?_
              intro τ56 g57 f58
              refine wp_inc (lv2 := [(0, .ref 39), (1, .long al), (3, .ref 26), (4, iV (x2 + 1)), (5, iV x16)]) jF_70_138 rfl rfl rfl rfl (pc2 := 141) ?_
              refine wp_go jF_70_141 ?_
              have q59 : (τ56.1 39 5) = (τ18.1 39 5) := ((FRw.nj f58 (by decide)).trans (FRw.nj f51 (by decide)))
              refine wp_less [0, 1, 3, 4] (lv2 := [(0, .ref 39), (1, .long al), (3, .ref 26), (4, iV (x2 + 1))]) rfl rfl ?_
              exact ih9 ((x2 + 1)) τ56 ⟨⟨by omega, by omega⟩, g57, (FR.w (FR.w (FR.up (FR.w f6 f14 rfl) f20 sb_WT39_WT39) f51 rfl) f58 rfl), (by omega), (by omega)⟩ (by show Int.toNat (10 - (x2 + 1)) < Int.toNat (10 - x2); omega)
            · intro h53
              refine wp_lc jF_70_123 rfl (pc2 := 124) ?_
              refine wp_go jF_70_124 ?_
              refine wp_lng (pc2 := 135) jF_70_134 rfl rfl ?_
              intro y60
              refine wp_pl jF_70_135 kd39 (by decide) rfl rfl (pc2 := 138) g50 ?_
              intro τ61 g62 f63
              refine wp_inc (lv2 := [(0, .ref 39), (1, .long al), (3, .ref 26), (4, iV (x2 + 1)), (5, iV x16)]) jF_70_138 rfl rfl rfl rfl (pc2 := 141) ?_
              refine wp_go jF_70_141 ?_
              have q64 : (τ61.1 39 5) = (τ18.1 39 5) := ((FRw.nj f63 (by decide)).trans (FRw.nj f51 (by decide)))
              refine wp_less [0, 1, 3, 4] (lv2 := [(0, .ref 39), (1, .long al), (3, .ref 26), (4, iV (x2 + 1))]) rfl rfl ?_
              exact ih9 ((x2 + 1)) τ61 ⟨⟨by omega, by omega⟩, g62, (FR.w (FR.w (FR.up (FR.w f6 f14 rfl) f20 sb_WT39_WT39) f51 rfl) f63 rfl), (by omega), (by omega)⟩ (by show Int.toNat (10 - (x2 + 1)) < Int.toNat (10 - x2); omega)
        · intro h26
          refine wp_al1 jF_70_37 rfl rfl (pc2 := 38) ?_
          refine wp_gr (b := 41) jF_70_38 kd39 (by decide) (c := 5) rfl rfl rfl (pc2 := 41) ?_
          refine wp_il2 jF_70_41 rfl rfl (pc2 := 43) ?_
          have b65 := GI.b g19 41 x16.toNat kd41 (lo := (-2147483648)) (hi := 2147483647) rfl
          refine wp_iald (n := 30) (e := (τ18.1 41 x16.toNat)) jF_70_43 kd41 (by decide) rfl rfl (by omega) (by omega) rfl rfl (pc2 := 44) ?_
          refine wp_is2 (lv2 := [(0, .ref 39), (1, .long al), (3, .ref 26), (4, iV x2), (5, iV x16), (6, iV (τ18.1 41 x16.toNat))]) jF_70_44 rfl rfl rfl (pc2 := 46) ?_
          refine wp_il2 jF_70_46 rfl rfl (pc2 := 48) ?_
          refine wp_z_lt jF_70_48 (m_rgb b65 rfl) rfl (pc2 := 51) ?_ ?_
          · intro h66
            refine wp_inc (lv2 := [(0, .ref 39), (1, .long al), (3, .ref 26), (4, iV x2), (5, iV (x16 + 1)), (6, iV (τ18.1 41 x16.toNat))]) jF_70_72 rfl rfl rfl rfl (pc2 := 75) ?_
            refine wp_go jF_70_75 ?_
            refine wp_less [0, 1, 3, 4, 5] (lv2 := [(0, .ref 39), (1, .long al), (3, .ref 26), (4, iV x2), (5, iV (x16 + 1))]) rfl rfl ?_
            exact ih24 ((x16 + 1)) τ18 ⟨⟨by omega, by omega⟩, g19, f20, (by omega), (by omega), (by omega)⟩ (by show Int.toNat (3 * x2 + 3 - (x16 + 1)) < Int.toNat (3 * x2 + 3 - x16); omega)
          · intro h66
            refine wp_il2 jF_70_51 rfl rfl (pc2 := 53) ?_
            refine wp_al1 jF_70_53 rfl rfl (pc2 := 54) ?_
            refine wp_len (n := 18) (t := 1) jF_70_54 kd26 (by decide) rfl rfl (pc2 := 55) ?_
            refine wp_i_ge jF_70_55 ⟨by omega, by omega⟩ (m_rgl rfl) rfl (pc2 := 58) ?_ ?_
            · intro h67
              refine wp_inc (lv2 := [(0, .ref 39), (1, .long al), (3, .ref 26), (4, iV x2), (5, iV (x16 + 1)), (6, iV (τ18.1 41 x16.toNat))]) jF_70_72 rfl rfl rfl rfl (pc2 := 75) ?_
              refine wp_go jF_70_75 ?_
              refine wp_less [0, 1, 3, 4, 5] (lv2 := [(0, .ref 39), (1, .long al), (3, .ref 26), (4, iV x2), (5, iV (x16 + 1))]) rfl rfl ?_
              exact ih24 ((x16 + 1)) τ18 ⟨⟨by omega, by omega⟩, g19, f20, (by omega), (by omega), (by omega)⟩ (by show Int.toNat (3 * x2 + 3 - (x16 + 1)) < Int.toNat (3 * x2 + 3 - x16); omega)
            · intro h67
              refine wp_al1 jF_70_58 rfl rfl (pc2 := 59) ?_
              refine wp_gr (b := 44) jF_70_59 kd39 (by decide) (c := 8) rfl rfl rfl (pc2 := 62) ?_
              refine wp_il2 jF_70_62 rfl rfl (pc2 := 64) ?_
              refine wp_du2 jF_70_64 rfl rfl (pc2 := 65) ?_
              refine wp_lald (n := 10) jF_70_65 kd44 (by decide) rfl rfl (by omega) (by omega) rfl (pc2 := 66) ?_
              intro y68
              refine wp_al1 jF_70_66 rfl rfl (pc2 := 67) ?_
              refine wp_il2 jF_70_67 rfl rfl (pc2 := 69) ?_
              refine wp_lald (n := 18) jF_70_69 kd26 (by decide) rfl rfl (by omega) (by omega) rfl (pc2 := 70) ?_
              intro y69
              refine wp_lng (pc2 := 71) jF_70_70 rfl rfl ?_
              intro y70
              refine wp_last (n := 10) jF_70_71 kd44 (by decide) rfl rfl (by omega) (by omega) rfl (pc2 := 72) g19 ?_
              intro τ71 g72 f73
              refine wp_inc (lv2 := [(0, .ref 39), (1, .long al), (3, .ref 26), (4, iV x2), (5, iV (x16 + 1)), (6, iV (τ18.1 41 x16.toNat))]) jF_70_72 rfl rfl rfl rfl (pc2 := 75) ?_
              refine wp_go jF_70_75 ?_
              have q74 : (τ71.1 39 5) = (τ18.1 39 5) := (FRw.na f73 (by decide))
              refine wp_less [0, 1, 3, 4, 5] (lv2 := [(0, .ref 39), (1, .long al), (3, .ref 26), (4, iV x2), (5, iV (x16 + 1))]) rfl rfl ?_
              exact ih24 ((x16 + 1)) τ71 ⟨⟨by omega, by omega⟩, g72, (FR.w f20 f73 rfl), (by omega), (by omega), (by omega)⟩ (by show Int.toNat (3 * x2 + 3 - (x16 + 1)) < Int.toNat (3 * x2 + 3 - x16); omega)
set_option maxHeartbeats 4000000 in
set_option maxRecDepth 20000 in
/-- Told.areAllKept -/
theorem m_86_r39 (σ : jM) (hg : GI σ) (fb : Int64)  (fr lo : Nat) (hfr : 0 ≤ fr) (hlo : 0 ≤ lo) : WP 86 0 (lv_args 0 [.ref 39, .long fb]) [] fr lo σ (fun v τ => ∃ z : Int, v = some (iV z) ∧ (0 ≤ z ∧ z ≤ 1) ∧ σ = τ) := by
  show WP 86 0 [(0, .ref 39), (1, .long fb)] [] _ _ _ _
  refine wp_al1 jF_86_0 rfl rfl (pc2 := 1) ?_
  refine wp_glA jF_86_1 kd39 (by decide) rfl rfl (pc2 := 4) ?_
  intro y1
  refine wp_ll1 jF_86_4 rfl rfl (pc2 := 5) ?_
  refine wp_ld jF_86_5 rfl (pc2 := 8) ?_
  refine wp_lng (pc2 := 9) jF_86_8 rfl rfl ?_
  intro y2
  refine wp_lng (pc2 := 10) jF_86_9 rfl rfl ?_
  intro y3
  refine wp_lc jF_86_10 rfl (pc2 := 11) ?_
  refine wp_anyL (pc2 := 12) jF_86_11 rfl rfl ?_
  intro z4 h5
  refine wp_z_ne jF_86_12 (m_rgb h5 rfl) rfl (pc2 := 15) ?_ ?_
  · intro h6
    refine wp_ic jF_86_30 rfl (pc2 := 31) ?_
    refine wp_ri jF_86_31 rfl ?_
    exact ⟨0, rfl, ⟨by omega, by omega⟩, rfl⟩
  · intro h6
    refine wp_al1 jF_86_15 rfl rfl (pc2 := 16) ?_
    refine wp_glA jF_86_16 kd39 (by decide) rfl rfl (pc2 := 19) ?_
    intro y7
    refine wp_ll1 jF_86_19 rfl rfl (pc2 := 20) ?_
    refine wp_lng (pc2 := 21) jF_86_20 rfl rfl ?_
    intro y8
    refine wp_lc jF_86_21 rfl (pc2 := 22) ?_
    refine wp_anyL (pc2 := 23) jF_86_22 rfl rfl ?_
    intro z9 h10
    refine wp_z_ne jF_86_23 (m_rgb h10 rfl) rfl (pc2 := 26) ?_ ?_
    · intro h11
      refine wp_ic jF_86_30 rfl (pc2 := 31) ?_
      refine wp_ri jF_86_31 rfl ?_
      exact ⟨0, rfl, ⟨by omega, by omega⟩, rfl⟩
    · intro h11
      refine wp_ic jF_86_26 rfl (pc2 := 27) ?_
      refine wp_go jF_86_27 ?_
      refine wp_ri jF_86_31 rfl ?_
      exact ⟨1, rfl, ⟨by omega, by omega⟩, rfl⟩
set_option maxHeartbeats 4000000 in
set_option maxRecDepth 20000 in
/-- Told.firstBroken -/
theorem m_167_r39 (σ : jM) (hg : GI σ) (fb : Int64) (pre0 : (σ.1 39 5) ≤ 10) (fr lo : Nat) (hfr : 0 ≤ fr) (hlo : 0 ≤ lo) : WP 167 0 (lv_args 0 [.ref 39, .long fb]) [] fr lo σ (fun v τ => ∃ z : Int, v = some (iV z) ∧ ((-1) ≤ z ∧ z ≤ 9) ∧ σ = τ) := by
  show WP 167 0 [(0, .ref 39), (1, .long fb)] [] _ _ _ _
  refine wp_ic jF_167_0 rfl (pc2 := 1) ?_
  refine wp_is1 (lv2 := [(0, .ref 39), (1, .long fb), (3, iV 0)]) jF_167_1 rfl rfl rfl (pc2 := 2) ?_
  refine wp_loop (α := Int) (fun a => [(0, .ref 39), (1, .long fb), (3, iV (a))]) (fun a τ => (0 ≤ a ∧ a ≤ 10) ∧ σ = τ) (fun a τ => Int.toNat (10 - (a))) (0) σ ?_ ?_
  · skip
    exact ⟨⟨by omega, by omega⟩, rfl⟩
  · rintro x1 _ ⟨h2, rfl⟩ ih6
    show WP 167 2 [(0, .ref 39), (1, .long fb), (3, iV x1)] [] _ _ _ _
    show WP 167 2 [(0, .ref 39), (1, .long fb), (3, iV x1)] [] _ _ _ _
    refine wp_il1 jF_167_2 rfl rfl (pc2 := 3) ?_
    refine wp_al1 jF_167_3 rfl rfl (pc2 := 4) ?_
    have b7 := GI.b hg 39 5 kd39 (lo := 0) (hi := 16) rfl
    refine wp_gi jF_167_4 kd39 (by decide) rfl rfl rfl (pc2 := 7) ?_
    refine wp_i_ge jF_167_7 (m_rgb h2 rfl) (m_rgb b7 rfl) rfl (pc2 := 10) ?_ ?_
    · intro h8
      refine wp_ic jF_167_59 rfl (pc2 := 60) ?_
      refine wp_ri jF_167_60 rfl ?_
      exact ⟨(-1), rfl, ⟨by omega, by omega⟩, rfl⟩
    · intro h8
      refine wp_al1 jF_167_10 rfl rfl (pc2 := 11) ?_
      refine wp_gr (b := 40) jF_167_11 kd39 (by decide) (c := 4) rfl rfl rfl (pc2 := 14) ?_
      refine wp_il1 jF_167_14 rfl rfl (pc2 := 15) ?_
      have b9 := GI.b hg 40 x1.toNat kd40 (lo := 0) (hi := 1) rfl
      refine wp_bald (n := 10) (e := (σ.1 40 x1.toNat)) jF_167_15 kd40 (by decide) rfl rfl (by omega) (by omega) rfl rfl (pc2 := 16) ?_
      refine wp_z_eq jF_167_16 (m_rgb b9 rfl) rfl (pc2 := 19) ?_ ?_
      · intro h10
        refine wp_al1 jF_167_34 rfl rfl (pc2 := 35) ?_
        refine wp_gr (b := 44) jF_167_35 kd39 (by decide) (c := 8) rfl rfl rfl (pc2 := 38) ?_
        refine wp_il1 jF_167_38 rfl rfl (pc2 := 39) ?_
        refine wp_lald (n := 10) jF_167_39 kd44 (by decide) rfl rfl (by omega) (by omega) rfl (pc2 := 40) ?_
        intro y11
        refine wp_ll1 jF_167_40 rfl rfl (pc2 := 41) ?_
        refine wp_lng (pc2 := 42) jF_167_41 rfl rfl ?_
        intro y12
        refine wp_ls2 (lv2 := [(0, .ref 39), (1, .long fb), (3, iV x1), (4, .long y12)]) jF_167_42 rfl rfl rfl (pc2 := 44) ?_
        refine wp_ll2 jF_167_44 rfl rfl (pc2 := 46) ?_
        refine wp_lc jF_167_46 rfl (pc2 := 47) ?_
        refine wp_anyL (pc2 := 48) jF_167_47 rfl rfl ?_
        intro z13 h14
        refine wp_z_eq jF_167_48 (m_rgb h14 rfl) rfl (pc2 := 51) ?_ ?_
        · intro h15
          refine wp_inc (lv2 := [(0, .ref 39), (1, .long fb), (3, iV (x1 + 1)), (4, .long y12)]) jF_167_53 rfl rfl rfl rfl (pc2 := 56) ?_
          refine wp_go jF_167_56 ?_
          refine wp_less [0, 1, 3] (lv2 := [(0, .ref 39), (1, .long fb), (3, iV (x1 + 1))]) rfl rfl ?_
          exact ih6 ((x1 + 1)) σ ⟨⟨by omega, by omega⟩, rfl⟩ (by show Int.toNat (10 - (x1 + 1)) < Int.toNat (10 - x1); omega)
        · intro h15
          refine wp_il1 jF_167_51 rfl rfl (pc2 := 52) ?_
          refine wp_ri jF_167_52 rfl ?_
          exact ⟨x1, rfl, ⟨by omega, by omega⟩, rfl⟩
      · intro h10
        refine wp_al1 jF_167_19 rfl rfl (pc2 := 20) ?_
        refine wp_gr (b := 44) jF_167_20 kd39 (by decide) (c := 8) rfl rfl rfl (pc2 := 23) ?_
        refine wp_il1 jF_167_23 rfl rfl (pc2 := 24) ?_
        refine wp_lald (n := 10) jF_167_24 kd44 (by decide) rfl rfl (by omega) (by omega) rfl (pc2 := 25) ?_
        intro y16
        refine wp_ll1 jF_167_25 rfl rfl (pc2 := 26) ?_
        refine wp_ld jF_167_26 rfl (pc2 := 29) ?_
        refine wp_lng (pc2 := 30) jF_167_29 rfl rfl ?_
        intro y17
        refine wp_lng (pc2 := 31) jF_167_30 rfl rfl ?_
        intro y18
        refine wp_go jF_167_31 ?_
        refine wp_ls2 (lv2 := [(0, .ref 39), (1, .long fb), (3, iV x1), (4, .long y18)]) jF_167_42 rfl rfl rfl (pc2 := 44) ?_
        refine wp_ll2 jF_167_44 rfl rfl (pc2 := 46) ?_
        refine wp_lc jF_167_46 rfl (pc2 := 47) ?_
        refine wp_anyL (pc2 := 48) jF_167_47 rfl rfl ?_
        intro z19 h20
        refine wp_z_eq jF_167_48 (m_rgb h20 rfl) rfl (pc2 := 51) ?_ ?_
        · intro h21
          refine wp_inc (lv2 := [(0, .ref 39), (1, .long fb), (3, iV (x1 + 1)), (4, .long y18)]) jF_167_53 rfl rfl rfl rfl (pc2 := 56) ?_
          refine wp_go jF_167_56 ?_
          refine wp_less [0, 1, 3] (lv2 := [(0, .ref 39), (1, .long fb), (3, iV (x1 + 1))]) rfl rfl ?_
          exact ih6 ((x1 + 1)) σ ⟨⟨by omega, by omega⟩, rfl⟩ (by show Int.toNat (10 - (x1 + 1)) < Int.toNat (10 - x1); omega)
        · intro h21
          refine wp_il1 jF_167_51 rfl rfl (pc2 := 52) ?_
          refine wp_ri jF_167_52 rfl ?_
          exact ⟨x1, rfl, ⟨by omega, by omega⟩, rfl⟩
set_option maxHeartbeats 4000000 in
set_option maxRecDepth 20000 in
/-- Told.isFull -/
theorem m_44_r52 (σ : jM) (hg : GI σ)   (fr lo : Nat) (hfr : 0 ≤ fr) (hlo : 0 ≤ lo) : WP 44 0 (lv_args 0 [.ref 52]) [] fr lo σ (fun v τ => ∃ z : Int, v = some (iV z) ∧ (0 ≤ z ∧ z ≤ 1) ∧ σ = τ ∧ (z = 0 → (σ.1 52 5) ≤ 15)) := by
  show WP 44 0 [(0, .ref 52)] [] _ _ _ _
  refine wp_al1 jF_44_0 rfl rfl (pc2 := 1) ?_
  have b1 := GI.b hg 52 5 kd52 (lo := 0) (hi := 16) rfl
  refine wp_gi jF_44_1 kd52 (by decide) rfl rfl rfl (pc2 := 4) ?_
  refine wp_al1 jF_44_4 rfl rfl (pc2 := 5) ?_
  refine wp_gr (b := 57) jF_44_5 kd52 (by decide) (c := 8) rfl rfl rfl (pc2 := 8) ?_
  refine wp_len (n := 16) (t := 1) jF_44_8 kd57 (by decide) rfl rfl (pc2 := 9) ?_
  refine wp_i_lt jF_44_9 (m_rgb b1 rfl) (m_rgl rfl) rfl (pc2 := 12) ?_ ?_
  · intro h2
    refine wp_ic jF_44_16 rfl (pc2 := 17) ?_
    refine wp_ri jF_44_17 rfl ?_
    exact ⟨0, rfl, ⟨by omega, by omega⟩, rfl, (by omega)⟩
  · intro h2
    refine wp_ic jF_44_12 rfl (pc2 := 13) ?_
    refine wp_go jF_44_13 ?_
    refine wp_ri jF_44_17 rfl ?_
    exact ⟨1, rfl, ⟨by omega, by omega⟩, rfl, (by omega)⟩
set_option maxHeartbeats 4000000 in
set_option maxRecDepth 20000 in
/-- Told.clear -/
theorem m_33_r52 (σ : jM) (hg : GI σ)   (fr lo : Nat) (hfr : 0 ≤ fr) (hlo : 0 ≤ lo) : WP 33 0 (lv_args 0 [.ref 52]) [] fr lo σ (fun v τ => v = none ∧ GI τ ∧ FR WT52 σ τ ∧ ((τ.1 52 5) = 0)) := by
  show WP 33 0 [(0, .ref 52)] [] _ _ _ _
  refine wp_al1 jF_33_0 rfl rfl (pc2 := 1) ?_
  refine wp_ic jF_33_1 rfl (pc2 := 2) ?_
  refine wp_pi jF_33_2 kd52 (by decide) rfl rfl rfl (pc2 := 5) hg (lo := 0) (hi := 16) rfl (by omega) (by omega) ?_
  intro τ1 g2 f3 e4
  refine wp_al1 jF_33_5 rfl rfl (pc2 := 6) ?_
  refine wp_lc jF_33_6 rfl (pc2 := 7) ?_
  refine wp_pl jF_33_7 kd52 (by decide) rfl rfl (pc2 := 10) g2 ?_
  intro τ5 g6 f7
  refine wp_al1 jF_33_10 rfl rfl (pc2 := 11) ?_
  refine wp_lc jF_33_11 rfl (pc2 := 12) ?_
  refine wp_pl jF_33_12 kd52 (by decide) rfl rfl (pc2 := 15) g6 ?_
  intro τ8 g9 f10
  refine wp_rv jF_33_15 ?_
  have q11 : (τ8.1 52 5) = 0 := ((FRw.nj f10 (by decide)).trans ((FRw.nj f7 (by decide)).trans e4))
  exact ⟨rfl, g9, (FR.w (FR.w (FR.w FR.rf f3 rfl) f7 rfl) f10 rfl), (by omega)⟩
set_option maxHeartbeats 4000000 in
set_option maxRecDepth 20000 in
/-- Told.setParty -/
theorem m_59_r52 (σ : jM) (hg : GI σ) (pt : Int) (hl_pt : (-2147483648) ≤ pt) (hu_pt : pt ≤ 2147483647)  (fr lo : Nat) (hfr : 1 ≤ fr) (hlo : 20 ≤ lo) : WP 59 0 (lv_args 0 [.ref 52, iV pt]) [] fr lo σ (fun v τ => v = none ∧ GI τ ∧ FR WT52 σ τ ∧ ((τ.1 52 5) = (σ.1 52 5))) := by
  show WP 59 0 [(0, .ref 52), (1, iV pt)] [] _ _ _ _
  refine wp_al1 jF_59_0 rfl rfl (pc2 := 1) ?_
  refine wp_cV (as := []) (rest := []) (a := 52) (mx := 1) (ci := 7) jF_59_1 kd52 (by decide) rfl rfl rfl rfl rfl (by omega) (by omega) rfl (pc2 := 4) ?_
  have b1 := GI.b hg 52 5 kd52 (lo := 0) (hi := 16) rfl
  refine wp_use (m_44_r52 σ hg   _ _ (by omega) (by omega)) ?_
  rintro _ _ ⟨z5, rfl, h6, rfl, p2⟩
  show WP 59 4 [(0, .ref 52), (1, iV pt)] [iV z5] _ _ _ _
  refine wp_z_ne jF_59_4 (m_rgb h6 rfl) rfl (pc2 := 7) ?_ ?_
  · intro h7
    clear p2
    refine wp_rv jF_59_17 ?_
    exact ⟨rfl, hg, FR.rf, (by omega)⟩
  · intro h7
    replace p2 := p2 (by omega)
    refine wp_al1 jF_59_7 rfl rfl (pc2 := 8) ?_
    refine wp_gr (b := 55) jF_59_8 kd52 (by decide) (c := 6) rfl rfl rfl (pc2 := 11) ?_
    refine wp_al1 jF_59_11 rfl rfl (pc2 := 12) ?_
    refine wp_gi jF_59_12 kd52 (by decide) rfl rfl rfl (pc2 := 15) ?_
    refine wp_il1 jF_59_15 rfl rfl (pc2 := 16) ?_
    refine wp_iast (n := 16) jF_59_16 kd55 (by decide) rfl rfl (by omega) (by omega) rfl (pc2 := 17) hg (lo := (-2147483648)) (hi := 2147483647) rfl (by omega) (by omega) ?_
    intro τ8 g9 f10 e11
    refine wp_rv jF_59_17 ?_
    have q12 : (τ8.1 52 5) = (σ.1 52 5) := (FRw.na f10 (by decide))
    exact ⟨rfl, g9, (FR.w FR.rf f10 rfl), (by omega)⟩
set_option maxHeartbeats 4000000 in
set_option maxRecDepth 20000 in
/-- Told.setHow -/
theorem m_61_r52 (σ : jM) (hg : GI σ) (fb : Int) (hl_fb : 0 ≤ fb) (hu_fb : fb ≤ 1)  (fr lo : Nat) (hfr : 1 ≤ fr) (hlo : 20 ≤ lo) : WP 61 0 (lv_args 0 [.ref 52, iV fb]) [] fr lo σ (fun v τ => v = none ∧ GI τ ∧ FR WT52 σ τ ∧ ((τ.1 52 5) = (σ.1 52 5))) := by
  show WP 61 0 [(0, .ref 52), (1, iV fb)] [] _ _ _ _
  refine wp_al1 jF_61_0 rfl rfl (pc2 := 1) ?_
  refine wp_cV (as := []) (rest := []) (a := 52) (mx := 1) (ci := 7) jF_61_1 kd52 (by decide) rfl rfl rfl rfl rfl (by omega) (by omega) rfl (pc2 := 4) ?_
  have b1 := GI.b hg 52 5 kd52 (lo := 0) (hi := 16) rfl
  refine wp_use (m_44_r52 σ hg   _ _ (by omega) (by omega)) ?_
  rintro _ _ ⟨z5, rfl, h6, rfl, p2⟩
  show WP 61 4 [(0, .ref 52), (1, iV fb)] [iV z5] _ _ _ _
  refine wp_z_ne jF_61_4 (m_rgb h6 rfl) rfl (pc2 := 7) ?_ ?_
  · intro h7
    clear p2
    refine wp_rv jF_61_17 ?_
    exact ⟨rfl, hg, FR.rf, (by omega)⟩
  · intro h7
    replace p2 := p2 (by omega)
    refine wp_al1 jF_61_7 rfl rfl (pc2 := 8) ?_
    refine wp_gr (b := 53) jF_61_8 kd52 (by decide) (c := 4) rfl rfl rfl (pc2 := 11) ?_
    refine wp_al1 jF_61_11 rfl rfl (pc2 := 12) ?_
    refine wp_gi jF_61_12 kd52 (by decide) rfl rfl rfl (pc2 := 15) ?_
    refine wp_il1 jF_61_15 rfl rfl (pc2 := 16) ?_
    refine wp_bast (n := 16) jF_61_16 kd53 (by decide) rfl rfl (by omega) (by omega) rfl (pc2 := 17) hg (lo := 0) (hi := 1) rfl (by omega) (by omega) (by decide) (by decide) ?_
    intro τ8 g9 f10 e11
    refine wp_rv jF_61_17 ?_
    have q12 : (τ8.1 52 5) = (σ.1 52 5) := (FRw.na f10 (by decide))
    exact ⟨rfl, g9, (FR.w FR.rf f10 rfl), (by omega)⟩
set_option maxHeartbeats 4000000 in
set_option maxRecDepth 20000 in
/-- Told.setOne -/
theorem m_63_r52 (σ : jM) (hg : GI σ) (sort : Int) (hl_sort : 0 ≤ sort) (hu_sort : sort ≤ 2) (wd : Int) (hl_wd : (-2147483648) ≤ wd) (hu_wd : wd ≤ 2147483647)  (fr lo : Nat) (hfr : 0 ≤ fr) (hlo : 0 ≤ lo) : WP 63 0 (lv_args 0 [.ref 52, iV sort, iV wd]) [] fr lo σ (fun v τ => v = none ∧ GI τ ∧ FR WT52 σ τ ∧ ((τ.1 52 5) = (σ.1 52 5))) := by
  show WP 63 0 [(0, .ref 52), (1, iV sort), (2, iV wd)] [] _ _ _ _
  refine wp_al1 jF_63_0 rfl rfl (pc2 := 1) ?_
  have b1 := GI.b hg 52 5 kd52 (lo := 0) (hi := 16) rfl
  refine wp_gi jF_63_1 kd52 (by decide) rfl rfl rfl (pc2 := 4) ?_
  refine wp_ic jF_63_4 rfl (pc2 := 5) ?_
  refine wp_mul jF_63_5 rfl (pc2 := 6) ?_
  refine wp_il1 jF_63_6 rfl rfl (pc2 := 7) ?_
  refine wp_add jF_63_7 rfl (pc2 := 8) ?_
  refine wp_is1 (lv2 := [(0, .ref 52), (1, iV sort), (2, iV wd), (3, iV (((σ.1 52 5) * 3) + sort))]) jF_63_8 rfl rfl rfl (pc2 := 9) ?_
  refine wp_il1 jF_63_9 rfl rfl (pc2 := 10) ?_
  refine wp_z_lt jF_63_10 ⟨by omega, by omega⟩ rfl (pc2 := 13) ?_ ?_
  · intro h2; exfalso; omega
  · intro h2
    refine wp_il1 jF_63_13 rfl rfl (pc2 := 14) ?_
    refine wp_al1 jF_63_14 rfl rfl (pc2 := 15) ?_
    refine wp_gr (b := 54) jF_63_15 kd52 (by decide) (c := 5) rfl rfl rfl (pc2 := 18) ?_
    refine wp_len (n := 48) (t := 0) jF_63_18 kd54 (by decide) rfl rfl (pc2 := 19) ?_
    refine wp_i_ge jF_63_19 ⟨by omega, by omega⟩ (m_rgl rfl) rfl (pc2 := 22) ?_ ?_
    · intro h3
      refine wp_rv jF_63_29 ?_
      exact ⟨rfl, hg, FR.rf, (by omega)⟩
    · intro h3
      refine wp_al1 jF_63_22 rfl rfl (pc2 := 23) ?_
      refine wp_gr (b := 54) jF_63_23 kd52 (by decide) (c := 5) rfl rfl rfl (pc2 := 26) ?_
      refine wp_il1 jF_63_26 rfl rfl (pc2 := 27) ?_
      refine wp_il1 jF_63_27 rfl rfl (pc2 := 28) ?_
      refine wp_iast (n := 48) jF_63_28 kd54 (by decide) rfl rfl (by omega) (by omega) rfl (pc2 := 29) hg (lo := (-2147483648)) (hi := 2147483647) rfl (by omega) (by omega) ?_
      intro τ4 g5 f6 e7
      refine wp_rv jF_63_29 ?_
      have q8 : (τ4.1 52 5) = (σ.1 52 5) := (FRw.na f6 (by decide))
      exact ⟨rfl, g5, (FR.w FR.rf f6 rfl), (by omega)⟩
set_option maxHeartbeats 4000000 in
set_option maxRecDepth 20000 in
/-- Told.close -/
theorem m_65_r52 (σ : jM) (hg : GI σ) (pc_ : Int) (hl_pc_ : (-2147483648) ≤ pc_) (hu_pc_ : pc_ ≤ 2147483647) (pre0 : (σ.1 52 5) ≤ 16) (fr lo : Nat) (hfr : 1 ≤ fr) (hlo : 20 ≤ lo) : WP 65 0 (lv_args 0 [.ref 52, iV pc_]) [] fr lo σ (fun v τ => ∃ z : Int, v = some (iV z) ∧ (0 ≤ z ∧ z ≤ 1) ∧ GI τ ∧ FR WT52 σ τ ∧ ((τ.1 52 5) ≤ 16)) := by
  show WP 65 0 [(0, .ref 52), (1, iV pc_)] [] _ _ _ _
  refine wp_al1 jF_65_0 rfl rfl (pc2 := 1) ?_
  refine wp_cV (as := []) (rest := []) (a := 52) (mx := 1) (ci := 7) jF_65_1 kd52 (by decide) rfl rfl rfl rfl rfl (by omega) (by omega) rfl (pc2 := 4) ?_
  have b1 := GI.b hg 52 5 kd52 (lo := 0) (hi := 16) rfl
  refine wp_use (m_44_r52 σ hg   _ _ (by omega) (by omega)) ?_
  rintro _ _ ⟨z5, rfl, h6, rfl, p2⟩
  show WP 65 4 [(0, .ref 52), (1, iV pc_)] [iV z5] _ _ _ _
  refine wp_z_eq jF_65_4 (m_rgb h6 rfl) rfl (pc2 := 7) ?_ ?_
  · intro h7
    replace p2 := p2 (by omega)
    refine wp_al1 jF_65_9 rfl rfl (pc2 := 10) ?_
    refine wp_gr (b := 56) jF_65_10 kd52 (by decide) (c := 7) rfl rfl rfl (pc2 := 13) ?_
    refine wp_al1 jF_65_13 rfl rfl (pc2 := 14) ?_
    refine wp_gi jF_65_14 kd52 (by decide) rfl rfl rfl (pc2 := 17) ?_
    refine wp_il1 jF_65_17 rfl rfl (pc2 := 18) ?_
    refine wp_iast (n := 16) jF_65_18 kd56 (by decide) rfl rfl (by omega) (by omega) rfl (pc2 := 19) hg (lo := (-2147483648)) (hi := 2147483647) rfl (by omega) (by omega) ?_
    intro τ8 g9 f10 e11
    refine wp_al1 jF_65_19 rfl rfl (pc2 := 20) ?_
    refine wp_dup jF_65_20 rfl rfl (pc2 := 21) ?_
    refine wp_gi jF_65_21 kd52 (by decide) rfl (FRw.na f10 (by decide)) rfl (pc2 := 24) ?_
    refine wp_ic jF_65_24 rfl (pc2 := 25) ?_
    refine wp_add jF_65_25 rfl (pc2 := 26) ?_
    refine wp_pi jF_65_26 kd52 (by decide) rfl rfl rfl (pc2 := 29) g9 (lo := 0) (hi := 16) rfl (by omega) (by omega) ?_
    intro τ12 g13 f14 e15
    refine wp_ic jF_65_29 rfl (pc2 := 30) ?_
    refine wp_ri jF_65_30 rfl ?_
    have q16 : (τ12.1 52 5) = ((σ.1 52 5) + 1) := e15
    exact ⟨1, rfl, ⟨by omega, by omega⟩, g13, (FR.w (FR.w FR.rf f10 rfl) f14 rfl), (by omega)⟩
  · intro h7
    clear p2
    refine wp_ic jF_65_7 rfl (pc2 := 8) ?_
    refine wp_ri jF_65_8 rfl ?_
    exact ⟨0, rfl, ⟨by omega, by omega⟩, hg, FR.rf, (by omega)⟩
set_option maxHeartbeats 4000000 in
set_option maxRecDepth 20000 in
/-- Told.settle -/
theorem m_70_r52_51 (σ : jM) (hg : GI σ) (al : Int64) (pre0 : (σ.1 52 5) ≤ 16) (fr lo : Nat) (hfr : 0 ≤ fr) (hlo : 0 ≤ lo) : WP 70 0 (lv_args 0 [.ref 52, .long al, .ref 51]) [] fr lo σ (fun v τ => v = none ∧ GI τ ∧ FR WT52 σ τ ∧ ((τ.1 52 5) = (σ.1 52 5))) := by
  show WP 70 0 [(0, .ref 52), (1, .long al), (3, .ref 51)] [] _ _ _ _
  refine wp_ic jF_70_0 rfl (pc2 := 1) ?_
  refine wp_is2 (lv2 := [(0, .ref 52), (1, .long al), (3, .ref 51), (4, iV 0)]) jF_70_1 rfl rfl rfl (pc2 := 3) ?_
  have b1 := GI.b hg 52 5 kd52 (lo := 0) (hi := 16) rfl
  refine wp_loop (α := Int) (fun a => [(0, .ref 52), (1, .long al), (3, .ref 51), (4, iV (a))]) (fun a τ => (0 ≤ a ∧ a ≤ 16) ∧ GI τ ∧ FR WT52 σ τ ∧ ((τ.1 52 5) = (σ.1 52 5)) ∧ ((a) ≤ (σ.1 52 5))) (fun a τ => Int.toNat (16 - (a))) (0) σ ?_ ?_
  · skip
    exact ⟨⟨by omega, by omega⟩, hg, FR.rf, (by omega), (by omega)⟩
  · rintro x2 τ4 ⟨h3, g5, f6, p7, p8⟩ ih9
    have b10 := GI.b g5 52 5 kd52 (lo := 0) (hi := 16) rfl
    show WP 70 3 [(0, .ref 52), (1, .long al), (3, .ref 51), (4, iV x2)] [] _ _ _ _
    show WP 70 3 [(0, .ref 52), (1, .long al), (3, .ref 51), (4, iV x2)] [] _ _ _ _
    refine wp_il2 jF_70_3 rfl rfl (pc2 := 5) ?_
    refine wp_al1 jF_70_5 rfl rfl (pc2 := 6) ?_
    refine wp_gi jF_70_6 kd52 (by decide) rfl rfl rfl (pc2 := 9) ?_
    refine wp_i_ge jF_70_9 (m_rgb h3 rfl) (m_rgb b10 rfl) rfl (pc2 := 12) ?_ ?_
    · intro h11
      refine wp_rv jF_70_144 ?_
      exact ⟨rfl, g5, f6, (by omega)⟩
    · intro h11
      refine wp_al1 jF_70_12 rfl rfl (pc2 := 13) ?_
      refine wp_gr (b := 57) jF_70_13 kd52 (by decide) (c := 8) rfl rfl rfl (pc2 := 16) ?_
      refine wp_il2 jF_70_16 rfl rfl (pc2 := 18) ?_
      refine wp_ll1 jF_70_18 rfl rfl (pc2 := 19) ?_
      refine wp_last (n := 16) jF_70_19 kd57 (by decide) rfl rfl (by omega) (by omega) rfl (pc2 := 20) g5 ?_
      intro τ12 g13 f14
      refine wp_il2 jF_70_20 rfl rfl (pc2 := 22) ?_
      refine wp_ic jF_70_22 rfl (pc2 := 23) ?_
      refine wp_mul jF_70_23 rfl (pc2 := 24) ?_
      refine wp_is2 (lv2 := [(0, .ref 52), (1, .long al), (3, .ref 51), (4, iV x2), (5, iV (x2 * 3))]) jF_70_24 rfl rfl rfl (pc2 := 26) ?_
      have q15 : (τ12.1 52 5) = (τ4.1 52 5) := (FRw.na f14 (by decide))
      refine wp_loop (α := Int) (fun a => [(0, .ref 52), (1, .long al), (3, .ref 51), (4, iV x2), (5, iV (a))]) (fun a τ => (0 ≤ a ∧ a ≤ 48) ∧ GI τ ∧ FR WT52 τ12 τ ∧ ((τ.1 52 5) = (τ12.1 52 5)) ∧ (3 * x2 ≤ (a)) ∧ ((a) ≤ 3 * x2 + 3)) (fun a τ => Int.toNat (3 * x2 + 3 - (a))) ((x2 * 3)) τ12 ?_ ?_
      · skip
        exact ⟨⟨by omega, by omega⟩, g13, FR.rf, (by omega), (by omega), (by omega)⟩
      · rintro x16 τ18 ⟨h17, g19, f20, p21, p22, p23⟩ ih24
        have b25 := GI.b g19 52 5 kd52 (lo := 0) (hi := 16) rfl
        show WP 70 26 [(0, .ref 52), (1, .long al), (3, .ref 51), (4, iV x2), (5, iV x16)] [] _ _ _ _
        show WP 70 26 [(0, .ref 52), (1, .long al), (3, .ref 51), (4, iV x2), (5, iV x16)] [] _ _ _ _
        refine wp_il2 jF_70_26 rfl rfl (pc2 := 28) ?_
        refine wp_il2 jF_70_28 rfl rfl (pc2 := 30) ?_
        refine wp_ic jF_70_30 rfl (pc2 := 31) ?_
        refine wp_add jF_70_31 rfl (pc2 := 32) ?_
        refine wp_ic jF_70_32 rfl (pc2 := 33) ?_
        refine wp_mul jF_70_33 rfl (pc2 := 34) ?_
        refine wp_i_ge jF_70_34 (m_rgb h17 rfl) ⟨by omega, by omega⟩ rfl (pc2 := 37) ?_ ?_
        · intro h26
          refine wp_al1 jF_70_78 rfl rfl (pc2 := 79) ?_
          refine wp_dup jF_70_79 rfl rfl (pc2 := 80) ?_
          refine wp_glA jF_70_80 kd52 (by decide) rfl rfl (pc2 := 83) ?_
          intro y27
          refine wp_al1 jF_70_83 rfl rfl (pc2 := 84) ?_
          refine wp_gr (b := 53) jF_70_84 kd52 (by decide) (c := 4) rfl rfl rfl (pc2 := 87) ?_
          refine wp_il2 jF_70_87 rfl rfl (pc2 := 89) ?_
          have b28 := GI.b g19 53 x2.toNat kd53 (lo := 0) (hi := 1) rfl
          refine wp_bald (n := 16) (e := (τ18.1 53 x2.toNat)) jF_70_89 kd53 (by decide) rfl rfl (by omega) (by omega) rfl rfl (pc2 := 90) ?_
          refine wp_z_eq jF_70_90 (m_rgb b28 rfl) rfl (pc2 := 93) ?_ ?_
          · intro h29
            refine wp_lc jF_70_103 rfl (pc2 := 104) ?_
            refine wp_lng (pc2 := 105) jF_70_104 rfl rfl ?_
            intro y30
            refine wp_pl jF_70_105 kd52 (by decide) rfl rfl (pc2 := 108) g19 ?_
            intro τ31 g32 f33
            refine wp_al1 jF_70_108 rfl rfl (pc2 := 109) ?_
            refine wp_dup jF_70_109 rfl rfl (pc2 := 110) ?_
            refine wp_glA jF_70_110 kd52 (by decide) rfl rfl (pc2 := 113) ?_
            intro y34
            refine wp_al1 jF_70_113 rfl rfl (pc2 := 114) ?_
            refine wp_gr (b := 53) jF_70_114 kd52 (by decide) (c := 4) rfl rfl rfl (pc2 := 117) ?_
            refine wp_il2 jF_70_117 rfl rfl (pc2 := 119) ?_
            refine wp_bald (n := 16) (e := (τ18.1 53 x2.toNat)) jF_70_119 kd53 (by decide) rfl rfl (by omega) (by omega) (FRw.na f33 (by decide)) rfl (pc2 := 120) ?_
            refine wp_z_eq jF_70_120 (m_rgb b28 rfl) rfl (pc2 := 123) ?_ ?_
            · intro h35
              refine wp_al1 jF_70_127 rfl rfl (pc2 := 128) ?_
              refine wp_gr (b := 57) jF_70_128 kd52 (by decide) (c := 8) rfl rfl rfl (pc2 := 131) ?_
              refine wp_il2 jF_70_131 rfl rfl (pc2 := 133) ?_
              refine wp_lald (n := 16) jF_70_133 kd57 (by decide) rfl rfl (by omega) (by omega) rfl (pc2 := 134) ?_
              intro y36
              refine wp_lng (pc2 := 135) jF_70_134 rfl rfl ?_
              intro y37
              refine wp_pl jF_70_135 kd52 (by decide) rfl rfl (pc2 := 138) g32 ?_
              intro τ38 g39 f40
              refine wp_inc (lv2 := [(0, .ref 52), (1, .long al), (3, .ref 51), (4, iV (x2 + 1)), (5, iV x16)]) jF_70_138 rfl rfl rfl rfl (pc2 := 141) ?_
              refine wp_go jF_70_141 ?_
              have q41 : (τ38.1 52 5) = (τ18.1 52 5) := ((FRw.nj f40 (by decide)).trans (FRw.nj f33 (by decide)))
              refine wp_less [0, 1, 3, 4] (lv2 := [(0, .ref 52), (1, .long al), (3, .ref 51), (4, iV (x2 + 1))]) rfl rfl ?_
              exact ih9 ((x2 + 1)) τ38 ⟨⟨by omega, by omega⟩, g39, (FR.w (FR.w (FR.up (FR.w f6 f14 rfl) f20 sb_WT52_WT52) f33 rfl) f40 rfl), (by omega), (by omega)⟩ (by show Int.toNat (16 - (x2 + 1)) < Int.toNat (16 - x2); omega)
            · intro h35
              refine wp_lc jF_70_123 rfl (pc2 := 124) ?_
              refine wp_go jF_70_124 ?_
              refine wp_lng (pc2 := 135) jF_70_134 rfl rfl ?_
              intro y42
              refine wp_pl jF_70_135 kd52 (by decide) rfl rfl (pc2 := 138) g32 ?_
              intro τ43 g44 f45
              refine wp_inc (lv2 := [(0, .ref 52), (1, .long al), (3, .ref 51), (4, iV (x2 + 1)), (5, iV x16)]) jF_70_138 rfl rfl rfl rfl (pc2 := 141) ?_
              refine wp_go jF_70_141 ?_
              have q46 : (τ43.1 52 5) = (τ18.1 52 5) := ((FRw.nj f45 (by decide)).trans (FRw.nj f33 (by decide)))
              refine wp_less [0, 1, 3, 4] (lv2 := [(0, .ref 52), (1, .long al), (3, .ref 51), (4, iV (x2 + 1))]) rfl rfl ?_
              exact ih9 ((x2 + 1)) τ43 ⟨⟨by omega, by omega⟩, g44, (FR.w (FR.w (FR.up (FR.w f6 f14 rfl) f20 sb_WT52_WT52) f33 rfl) f45 rfl), (by omega), (by omega)⟩ (by show Int.toNat (16 - (x2 + 1)) < Int.toNat (16 - x2); omega)
          · intro h29
            refine wp_al1 jF_70_93 rfl rfl (pc2 := 94) ?_
            refine wp_gr (b := 57) jF_70_94 kd52 (by decide) (c := 8) rfl rfl rfl (pc2 := 97) ?_
            refine wp_il2 jF_70_97 rfl rfl (pc2 := 99) ?_
            refine wp_lald (n := 16) jF_70_99 kd57 (by decide) rfl rfl (by omega) (by omega) rfl (pc2 := 100) ?_
            intro y47
            refine wp_go jF_70_100 ?_
            refine wp_lng (pc2 := 105) jF_70_104 rfl rfl ?_
            intro y48
            refine wp_pl jF_70_105 kd52 (by decide) rfl rfl (pc2 := 108) g19 ?_
            intro τ49 g50 f51
            refine wp_al1 jF_70_108 rfl rfl (pc2 := 109) ?_
            refine wp_dup jF_70_109 rfl rfl (pc2 := 110) ?_
            refine wp_glA jF_70_110 kd52 (by decide) rfl rfl (pc2 := 113) ?_
            intro y52
            refine wp_al1 jF_70_113 rfl rfl (pc2 := 114) ?_
            refine wp_gr (b := 53) jF_70_114 kd52 (by decide) (c := 4) rfl rfl rfl (pc2 := 117) ?_
            refine wp_il2 jF_70_117 rfl rfl (pc2 := 119) ?_
            refine wp_bald (n := 16) (e := (τ18.1 53 x2.toNat)) jF_70_119 kd53 (by decide) rfl rfl (by omega) (by omega) (FRw.na f51 (by decide)) rfl (pc2 := 120) ?_
            refine wp_z_eq jF_70_120 (m_rgb b28 rfl) rfl (pc2 := 123) ?_ ?_
            · intro h53
              refine wp_al1 jF_70_127 rfl rfl (pc2 := 128) ?_
              refine wp_gr (b := 57) jF_70_128 kd52 (by decide) (c := 8) rfl rfl rfl (pc2 := 131) ?_
              refine wp_il2 jF_70_131 rfl rfl (pc2 := 133) ?_
              refine wp_lald (n := 16) jF_70_133 kd57 (by decide) rfl rfl (by omega) (by omega) rfl (pc2 := 134) ?_
              intro y54
              refine wp_lng (pc2 := 135) jF_70_134 rfl rfl ?_
              intro y55
              refine wp_pl jF_70_135 kd52 (by decide) rfl rfl (pc2 := 138) g50 ?_
              intro τ56 g57 f58
              refine wp_inc (lv2 := [(0, .ref 52), (1, .long al), (3, .ref 51), (4, iV (x2 + 1)), (5, iV x16)]) jF_70_138 rfl rfl rfl rfl (pc2 := 141) ?_
              refine wp_go jF_70_141 ?_
              have q59 : (τ56.1 52 5) = (τ18.1 52 5) := ((FRw.nj f58 (by decide)).trans (FRw.nj f51 (by decide)))
              refine wp_less [0, 1, 3, 4] (lv2 := [(0, .ref 52), (1, .long al), (3, .ref 51), (4, iV (x2 + 1))]) rfl rfl ?_
              exact ih9 ((x2 + 1)) τ56 ⟨⟨by omega, by omega⟩, g57, (FR.w (FR.w (FR.up (FR.w f6 f14 rfl) f20 sb_WT52_WT52) f51 rfl) f58 rfl), (by omega), (by omega)⟩ (by show Int.toNat (16 - (x2 + 1)) < Int.toNat (16 - x2); omega)
            · intro h53
              refine wp_lc jF_70_123 rfl (pc2 := 124) ?_
              refine wp_go jF_70_124 ?_
              refine wp_lng (pc2 := 135) jF_70_134 rfl rfl ?_
              intro y60
              refine wp_pl jF_70_135 kd52 (by decide) rfl rfl (pc2 := 138) g50 ?_
              intro τ61 g62 f63
              refine wp_inc (lv2 := [(0, .ref 52), (1, .long al), (3, .ref 51), (4, iV (x2 + 1)), (5, iV x16)]) jF_70_138 rfl rfl rfl rfl (pc2 := 141) ?_
              refine wp_go jF_70_141 ?_
              have q64 : (τ61.1 52 5) = (τ18.1 52 5) := ((FRw.nj f63 (by decide)).trans (FRw.nj f51 (by decide)))
              refine wp_less [0, 1, 3, 4] (lv2 := [(0, .ref 52), (1, .long al), (3, .ref 51), (4, iV (x2 + 1))]) rfl rfl ?_
              exact ih9 ((x2 + 1)) τ61 ⟨⟨by omega, by omega⟩, g62, (FR.w (FR.w (FR.up (FR.w f6 f14 rfl) f20 sb_WT52_WT52) f51 rfl) f63 rfl), (by omega), (by omega)⟩ (by show Int.toNat (16 - (x2 + 1)) < Int.toNat (16 - x2); omega)
        · intro h26
          refine wp_al1 jF_70_37 rfl rfl (pc2 := 38) ?_
          refine wp_gr (b := 54) jF_70_38 kd52 (by decide) (c := 5) rfl rfl rfl (pc2 := 41) ?_
          refine wp_il2 jF_70_41 rfl rfl (pc2 := 43) ?_
          have b65 := GI.b g19 54 x16.toNat kd54 (lo := (-2147483648)) (hi := 2147483647) rfl
          refine wp_iald (n := 48) (e := (τ18.1 54 x16.toNat)) jF_70_43 kd54 (by decide) rfl rfl (by omega) (by omega) rfl rfl (pc2 := 44) ?_
          refine wp_is2 (lv2 := [(0, .ref 52), (1, .long al), (3, .ref 51), (4, iV x2), (5, iV x16), (6, iV (τ18.1 54 x16.toNat))]) jF_70_44 rfl rfl rfl (pc2 := 46) ?_
          refine wp_il2 jF_70_46 rfl rfl (pc2 := 48) ?_
          refine wp_z_lt jF_70_48 (m_rgb b65 rfl) rfl (pc2 := 51) ?_ ?_
          · intro h66
            refine wp_inc (lv2 := [(0, .ref 52), (1, .long al), (3, .ref 51), (4, iV x2), (5, iV (x16 + 1)), (6, iV (τ18.1 54 x16.toNat))]) jF_70_72 rfl rfl rfl rfl (pc2 := 75) ?_
            refine wp_go jF_70_75 ?_
            refine wp_less [0, 1, 3, 4, 5] (lv2 := [(0, .ref 52), (1, .long al), (3, .ref 51), (4, iV x2), (5, iV (x16 + 1))]) rfl rfl ?_
            exact ih24 ((x16 + 1)) τ18 ⟨⟨by omega, by omega⟩, g19, f20, (by omega), (by omega), (by omega)⟩ (by show Int.toNat (3 * x2 + 3 - (x16 + 1)) < Int.toNat (3 * x2 + 3 - x16); omega)
          · intro h66
            refine wp_il2 jF_70_51 rfl rfl (pc2 := 53) ?_
            refine wp_al1 jF_70_53 rfl rfl (pc2 := 54) ?_
            refine wp_len (n := 18) (t := 1) jF_70_54 kd51 (by decide) rfl rfl (pc2 := 55) ?_
            refine wp_i_ge jF_70_55 ⟨by omega, by omega⟩ (m_rgl rfl) rfl (pc2 := 58) ?_ ?_
            · intro h67
              refine wp_inc (lv2 := [(0, .ref 52), (1, .long al), (3, .ref 51), (4, iV x2), (5, iV (x16 + 1)), (6, iV (τ18.1 54 x16.toNat))]) jF_70_72 rfl rfl rfl rfl (pc2 := 75) ?_
              refine wp_go jF_70_75 ?_
              refine wp_less [0, 1, 3, 4, 5] (lv2 := [(0, .ref 52), (1, .long al), (3, .ref 51), (4, iV x2), (5, iV (x16 + 1))]) rfl rfl ?_
              exact ih24 ((x16 + 1)) τ18 ⟨⟨by omega, by omega⟩, g19, f20, (by omega), (by omega), (by omega)⟩ (by show Int.toNat (3 * x2 + 3 - (x16 + 1)) < Int.toNat (3 * x2 + 3 - x16); omega)
            · intro h67
              refine wp_al1 jF_70_58 rfl rfl (pc2 := 59) ?_
              refine wp_gr (b := 57) jF_70_59 kd52 (by decide) (c := 8) rfl rfl rfl (pc2 := 62) ?_
              refine wp_il2 jF_70_62 rfl rfl (pc2 := 64) ?_
              refine wp_du2 jF_70_64 rfl rfl (pc2 := 65) ?_
              refine wp_lald (n := 16) jF_70_65 kd57 (by decide) rfl rfl (by omega) (by omega) rfl (pc2 := 66) ?_
              intro y68
              refine wp_al1 jF_70_66 rfl rfl (pc2 := 67) ?_
              refine wp_il2 jF_70_67 rfl rfl (pc2 := 69) ?_
              refine wp_lald (n := 18) jF_70_69 kd51 (by decide) rfl rfl (by omega) (by omega) rfl (pc2 := 70) ?_
              intro y69
              refine wp_lng (pc2 := 71) jF_70_70 rfl rfl ?_
              intro y70
              refine wp_last (n := 16) jF_70_71 kd57 (by decide) rfl rfl (by omega) (by omega) rfl (pc2 := 72) g19 ?_
              intro τ71 g72 f73
              refine wp_inc (lv2 := [(0, .ref 52), (1, .long al), (3, .ref 51), (4, iV x2), (5, iV (x16 + 1)), (6, iV (τ18.1 54 x16.toNat))]) jF_70_72 rfl rfl rfl rfl (pc2 := 75) ?_
              refine wp_go jF_70_75 ?_
              have q74 : (τ71.1 52 5) = (τ18.1 52 5) := (FRw.na f73 (by decide))
              refine wp_less [0, 1, 3, 4, 5] (lv2 := [(0, .ref 52), (1, .long al), (3, .ref 51), (4, iV x2), (5, iV (x16 + 1))]) rfl rfl ?_
              exact ih24 ((x16 + 1)) τ71 ⟨⟨by omega, by omega⟩, g72, (FR.w f20 f73 rfl), (by omega), (by omega), (by omega)⟩ (by show Int.toNat (3 * x2 + 3 - (x16 + 1)) < Int.toNat (3 * x2 + 3 - x16); omega)
set_option maxHeartbeats 4000000 in
set_option maxRecDepth 20000 in
/-- Told.worthOf -/
theorem m_156_r52 (σ : jM) (hg : GI σ) (k : Int) (hl_k : 0 ≤ k) (hu_k : k ≤ 15) (fb : Int64)  (fr lo : Nat) (hfr : 1 ≤ fr) (hlo : 21 ≤ lo) : WP 156 0 (lv_args 0 [.ref 52, iV k, .long fb]) [] fr lo σ (fun v τ => ∃ z : Int, v = some (iV z) ∧ ((-2147483648) ≤ z ∧ z ≤ 2147483647) ∧ σ = τ) := by
  show WP 156 0 [(0, .ref 52), (1, iV k), (2, .long fb)] [] _ _ _ _
  refine wp_al1 jF_156_0 rfl rfl (pc2 := 1) ?_
  refine wp_gr (b := 53) jF_156_1 kd52 (by decide) (c := 4) rfl rfl rfl (pc2 := 4) ?_
  refine wp_il1 jF_156_4 rfl rfl (pc2 := 5) ?_
  have b1 := GI.b hg 53 k.toNat kd53 (lo := 0) (hi := 1) rfl
  refine wp_bald (n := 16) (e := (σ.1 53 k.toNat)) jF_156_5 kd53 (by decide) rfl rfl (by omega) (by omega) rfl rfl (pc2 := 6) ?_
  refine wp_z_eq jF_156_6 (m_rgb b1 rfl) rfl (pc2 := 9) ?_ ?_
  · intro h2
    refine wp_al1 jF_156_20 rfl rfl (pc2 := 21) ?_
    refine wp_gr (b := 57) jF_156_21 kd52 (by decide) (c := 8) rfl rfl rfl (pc2 := 24) ?_
    refine wp_il1 jF_156_24 rfl rfl (pc2 := 25) ?_
    refine wp_lald (n := 16) jF_156_25 kd57 (by decide) rfl rfl (by omega) (by omega) rfl (pc2 := 26) ?_
    intro y3
    refine wp_ll1 jF_156_26 rfl rfl (pc2 := 27) ?_
    refine wp_ld jF_156_27 rfl (pc2 := 30) ?_
    refine wp_lng (pc2 := 31) jF_156_30 rfl rfl ?_
    intro y4
    refine wp_lng (pc2 := 32) jF_156_31 rfl rfl ?_
    intro y5
    refine wp_ls2 (lv2 := [(0, .ref 52), (1, iV k), (2, .long fb), (4, .long y5)]) jF_156_32 rfl rfl rfl (pc2 := 34) ?_
    refine wp_al1 jF_156_34 rfl rfl (pc2 := 35) ?_
    refine wp_gr (b := 56) jF_156_35 kd52 (by decide) (c := 7) rfl rfl rfl (pc2 := 38) ?_
    refine wp_il1 jF_156_38 rfl rfl (pc2 := 39) ?_
    have b6 := GI.b hg 56 k.toNat kd56 (lo := (-2147483648)) (hi := 2147483647) rfl
    refine wp_iald (n := 16) (e := (σ.1 56 k.toNat)) jF_156_39 kd56 (by decide) rfl rfl (by omega) (by omega) rfl rfl (pc2 := 40) ?_
    refine wp_ll2 jF_156_40 rfl rfl (pc2 := 42) ?_
    refine wp_cS (as := [.long y5]) (rest := [iV (σ.1 56 k.toNat)]) (mx := 2) jF_156_42 rfl rfl rfl rfl (by omega) (by omega) rfl (pc2 := 45) ?_
    refine wp_use (m_96_r σ hg y5  _ _ (by omega) (by omega)) ?_
    rintro _ _ ⟨z9, rfl, h10, rfl⟩
    show WP 156 45 [(0, .ref 52), (1, iV k), (2, .long fb), (4, .long y5)] [iV z9, iV (σ.1 56 k.toNat)] _ _ _ _
    refine wp_any2 (pc2 := 46) jF_156_45 rfl rfl ?_
    intro z11 h12
    refine wp_ri jF_156_46 rfl ?_
    exact ⟨z11, rfl, ⟨by omega, by omega⟩, rfl⟩
  · intro h2
    refine wp_al1 jF_156_9 rfl rfl (pc2 := 10) ?_
    refine wp_gr (b := 57) jF_156_10 kd52 (by decide) (c := 8) rfl rfl rfl (pc2 := 13) ?_
    refine wp_il1 jF_156_13 rfl rfl (pc2 := 14) ?_
    refine wp_lald (n := 16) jF_156_14 kd57 (by decide) rfl rfl (by omega) (by omega) rfl (pc2 := 15) ?_
    intro y13
    refine wp_ll1 jF_156_15 rfl rfl (pc2 := 16) ?_
    refine wp_lng (pc2 := 17) jF_156_16 rfl rfl ?_
    intro y14
    refine wp_go jF_156_17 ?_
    refine wp_ls2 (lv2 := [(0, .ref 52), (1, iV k), (2, .long fb), (4, .long y14)]) jF_156_32 rfl rfl rfl (pc2 := 34) ?_
    refine wp_al1 jF_156_34 rfl rfl (pc2 := 35) ?_
    refine wp_gr (b := 56) jF_156_35 kd52 (by decide) (c := 7) rfl rfl rfl (pc2 := 38) ?_
    refine wp_il1 jF_156_38 rfl rfl (pc2 := 39) ?_
    have b15 := GI.b hg 56 k.toNat kd56 (lo := (-2147483648)) (hi := 2147483647) rfl
    refine wp_iald (n := 16) (e := (σ.1 56 k.toNat)) jF_156_39 kd56 (by decide) rfl rfl (by omega) (by omega) rfl rfl (pc2 := 40) ?_
    refine wp_ll2 jF_156_40 rfl rfl (pc2 := 42) ?_
    refine wp_cS (as := [.long y14]) (rest := [iV (σ.1 56 k.toNat)]) (mx := 2) jF_156_42 rfl rfl rfl rfl (by omega) (by omega) rfl (pc2 := 45) ?_
    refine wp_use (m_96_r σ hg y14  _ _ (by omega) (by omega)) ?_
    rintro _ _ ⟨z18, rfl, h19, rfl⟩
    show WP 156 45 [(0, .ref 52), (1, iV k), (2, .long fb), (4, .long y14)] [iV z18, iV (σ.1 56 k.toNat)] _ _ _ _
    refine wp_any2 (pc2 := 46) jF_156_45 rfl rfl ?_
    intro z20 h21
    refine wp_ri jF_156_46 rfl ?_
    exact ⟨z20, rfl, ⟨by omega, by omega⟩, rfl⟩
set_option maxHeartbeats 4000000 in
set_option maxRecDepth 20000 in
/-- Told.isFull -/
theorem m_44_r58 (σ : jM) (hg : GI σ)   (fr lo : Nat) (hfr : 0 ≤ fr) (hlo : 0 ≤ lo) : WP 44 0 (lv_args 0 [.ref 58]) [] fr lo σ (fun v τ => ∃ z : Int, v = some (iV z) ∧ (0 ≤ z ∧ z ≤ 1) ∧ σ = τ ∧ (z = 0 → (σ.1 58 5) ≤ 7)) := by
  show WP 44 0 [(0, .ref 58)] [] _ _ _ _
  refine wp_al1 jF_44_0 rfl rfl (pc2 := 1) ?_
  have b1 := GI.b hg 58 5 kd58 (lo := 0) (hi := 16) rfl
  refine wp_gi jF_44_1 kd58 (by decide) rfl rfl rfl (pc2 := 4) ?_
  refine wp_al1 jF_44_4 rfl rfl (pc2 := 5) ?_
  refine wp_gr (b := 63) jF_44_5 kd58 (by decide) (c := 8) rfl rfl rfl (pc2 := 8) ?_
  refine wp_len (n := 8) (t := 1) jF_44_8 kd63 (by decide) rfl rfl (pc2 := 9) ?_
  refine wp_i_lt jF_44_9 (m_rgb b1 rfl) (m_rgl rfl) rfl (pc2 := 12) ?_ ?_
  · intro h2
    refine wp_ic jF_44_16 rfl (pc2 := 17) ?_
    refine wp_ri jF_44_17 rfl ?_
    exact ⟨0, rfl, ⟨by omega, by omega⟩, rfl, (by omega)⟩
  · intro h2
    refine wp_ic jF_44_12 rfl (pc2 := 13) ?_
    refine wp_go jF_44_13 ?_
    refine wp_ri jF_44_17 rfl ?_
    exact ⟨1, rfl, ⟨by omega, by omega⟩, rfl, (by omega)⟩
set_option maxHeartbeats 4000000 in
set_option maxRecDepth 20000 in
/-- Told.clear -/
theorem m_33_r58 (σ : jM) (hg : GI σ)   (fr lo : Nat) (hfr : 0 ≤ fr) (hlo : 0 ≤ lo) : WP 33 0 (lv_args 0 [.ref 58]) [] fr lo σ (fun v τ => v = none ∧ GI τ ∧ FR WT58 σ τ ∧ ((τ.1 58 5) = 0)) := by
  show WP 33 0 [(0, .ref 58)] [] _ _ _ _
  refine wp_al1 jF_33_0 rfl rfl (pc2 := 1) ?_
  refine wp_ic jF_33_1 rfl (pc2 := 2) ?_
  refine wp_pi jF_33_2 kd58 (by decide) rfl rfl rfl (pc2 := 5) hg (lo := 0) (hi := 16) rfl (by omega) (by omega) ?_
  intro τ1 g2 f3 e4
  refine wp_al1 jF_33_5 rfl rfl (pc2 := 6) ?_
  refine wp_lc jF_33_6 rfl (pc2 := 7) ?_
  refine wp_pl jF_33_7 kd58 (by decide) rfl rfl (pc2 := 10) g2 ?_
  intro τ5 g6 f7
  refine wp_al1 jF_33_10 rfl rfl (pc2 := 11) ?_
  refine wp_lc jF_33_11 rfl (pc2 := 12) ?_
  refine wp_pl jF_33_12 kd58 (by decide) rfl rfl (pc2 := 15) g6 ?_
  intro τ8 g9 f10
  refine wp_rv jF_33_15 ?_
  have q11 : (τ8.1 58 5) = 0 := ((FRw.nj f10 (by decide)).trans ((FRw.nj f7 (by decide)).trans e4))
  exact ⟨rfl, g9, (FR.w (FR.w (FR.w FR.rf f3 rfl) f7 rfl) f10 rfl), (by omega)⟩
set_option maxHeartbeats 4000000 in
set_option maxRecDepth 20000 in
/-- Told.setHow -/
theorem m_61_r58 (σ : jM) (hg : GI σ) (fb : Int) (hl_fb : 0 ≤ fb) (hu_fb : fb ≤ 1)  (fr lo : Nat) (hfr : 1 ≤ fr) (hlo : 20 ≤ lo) : WP 61 0 (lv_args 0 [.ref 58, iV fb]) [] fr lo σ (fun v τ => v = none ∧ GI τ ∧ FR WT58 σ τ ∧ ((τ.1 58 5) = (σ.1 58 5))) := by
  show WP 61 0 [(0, .ref 58), (1, iV fb)] [] _ _ _ _
  refine wp_al1 jF_61_0 rfl rfl (pc2 := 1) ?_
  refine wp_cV (as := []) (rest := []) (a := 58) (mx := 1) (ci := 7) jF_61_1 kd58 (by decide) rfl rfl rfl rfl rfl (by omega) (by omega) rfl (pc2 := 4) ?_
  have b1 := GI.b hg 58 5 kd58 (lo := 0) (hi := 16) rfl
  refine wp_use (m_44_r58 σ hg   _ _ (by omega) (by omega)) ?_
  rintro _ _ ⟨z5, rfl, h6, rfl, p2⟩
  show WP 61 4 [(0, .ref 58), (1, iV fb)] [iV z5] _ _ _ _
  refine wp_z_ne jF_61_4 (m_rgb h6 rfl) rfl (pc2 := 7) ?_ ?_
  · intro h7
    clear p2
    refine wp_rv jF_61_17 ?_
    exact ⟨rfl, hg, FR.rf, (by omega)⟩
  · intro h7
    replace p2 := p2 (by omega)
    refine wp_al1 jF_61_7 rfl rfl (pc2 := 8) ?_
    refine wp_gr (b := 59) jF_61_8 kd58 (by decide) (c := 4) rfl rfl rfl (pc2 := 11) ?_
    refine wp_al1 jF_61_11 rfl rfl (pc2 := 12) ?_
    refine wp_gi jF_61_12 kd58 (by decide) rfl rfl rfl (pc2 := 15) ?_
    refine wp_il1 jF_61_15 rfl rfl (pc2 := 16) ?_
    refine wp_bast (n := 8) jF_61_16 kd59 (by decide) rfl rfl (by omega) (by omega) rfl (pc2 := 17) hg (lo := 0) (hi := 1) rfl (by omega) (by omega) (by decide) (by decide) ?_
    intro τ8 g9 f10 e11
    refine wp_rv jF_61_17 ?_
    have q12 : (τ8.1 58 5) = (σ.1 58 5) := (FRw.na f10 (by decide))
    exact ⟨rfl, g9, (FR.w FR.rf f10 rfl), (by omega)⟩
set_option maxHeartbeats 4000000 in
set_option maxRecDepth 20000 in
/-- Told.setOne -/
theorem m_63_r58 (σ : jM) (hg : GI σ) (sort : Int) (hl_sort : 0 ≤ sort) (hu_sort : sort ≤ 2) (wd : Int) (hl_wd : (-2147483648) ≤ wd) (hu_wd : wd ≤ 2147483647)  (fr lo : Nat) (hfr : 0 ≤ fr) (hlo : 0 ≤ lo) : WP 63 0 (lv_args 0 [.ref 58, iV sort, iV wd]) [] fr lo σ (fun v τ => v = none ∧ GI τ ∧ FR WT58 σ τ ∧ ((τ.1 58 5) = (σ.1 58 5))) := by
  show WP 63 0 [(0, .ref 58), (1, iV sort), (2, iV wd)] [] _ _ _ _
  refine wp_al1 jF_63_0 rfl rfl (pc2 := 1) ?_
  have b1 := GI.b hg 58 5 kd58 (lo := 0) (hi := 16) rfl
  refine wp_gi jF_63_1 kd58 (by decide) rfl rfl rfl (pc2 := 4) ?_
  refine wp_ic jF_63_4 rfl (pc2 := 5) ?_
  refine wp_mul jF_63_5 rfl (pc2 := 6) ?_
  refine wp_il1 jF_63_6 rfl rfl (pc2 := 7) ?_
  refine wp_add jF_63_7 rfl (pc2 := 8) ?_
  refine wp_is1 (lv2 := [(0, .ref 58), (1, iV sort), (2, iV wd), (3, iV (((σ.1 58 5) * 3) + sort))]) jF_63_8 rfl rfl rfl (pc2 := 9) ?_
  refine wp_il1 jF_63_9 rfl rfl (pc2 := 10) ?_
  refine wp_z_lt jF_63_10 ⟨by omega, by omega⟩ rfl (pc2 := 13) ?_ ?_
  · intro h2; exfalso; omega
  · intro h2
    refine wp_il1 jF_63_13 rfl rfl (pc2 := 14) ?_
    refine wp_al1 jF_63_14 rfl rfl (pc2 := 15) ?_
    refine wp_gr (b := 60) jF_63_15 kd58 (by decide) (c := 5) rfl rfl rfl (pc2 := 18) ?_
    refine wp_len (n := 24) (t := 0) jF_63_18 kd60 (by decide) rfl rfl (pc2 := 19) ?_
    refine wp_i_ge jF_63_19 ⟨by omega, by omega⟩ (m_rgl rfl) rfl (pc2 := 22) ?_ ?_
    · intro h3
      refine wp_rv jF_63_29 ?_
      exact ⟨rfl, hg, FR.rf, (by omega)⟩
    · intro h3
      refine wp_al1 jF_63_22 rfl rfl (pc2 := 23) ?_
      refine wp_gr (b := 60) jF_63_23 kd58 (by decide) (c := 5) rfl rfl rfl (pc2 := 26) ?_
      refine wp_il1 jF_63_26 rfl rfl (pc2 := 27) ?_
      refine wp_il1 jF_63_27 rfl rfl (pc2 := 28) ?_
      refine wp_iast (n := 24) jF_63_28 kd60 (by decide) rfl rfl (by omega) (by omega) rfl (pc2 := 29) hg (lo := (-2147483648)) (hi := 2147483647) rfl (by omega) (by omega) ?_
      intro τ4 g5 f6 e7
      refine wp_rv jF_63_29 ?_
      have q8 : (τ4.1 58 5) = (σ.1 58 5) := (FRw.na f6 (by decide))
      exact ⟨rfl, g5, (FR.w FR.rf f6 rfl), (by omega)⟩
set_option maxHeartbeats 4000000 in
set_option maxRecDepth 20000 in
/-- Told.close -/
theorem m_65_r58 (σ : jM) (hg : GI σ) (pc_ : Int) (hl_pc_ : (-2147483648) ≤ pc_) (hu_pc_ : pc_ ≤ 2147483647) (pre0 : (σ.1 58 5) ≤ 8) (fr lo : Nat) (hfr : 1 ≤ fr) (hlo : 20 ≤ lo) : WP 65 0 (lv_args 0 [.ref 58, iV pc_]) [] fr lo σ (fun v τ => ∃ z : Int, v = some (iV z) ∧ (0 ≤ z ∧ z ≤ 1) ∧ GI τ ∧ FR WT58 σ τ ∧ ((τ.1 58 5) ≤ 8)) := by
  show WP 65 0 [(0, .ref 58), (1, iV pc_)] [] _ _ _ _
  refine wp_al1 jF_65_0 rfl rfl (pc2 := 1) ?_
  refine wp_cV (as := []) (rest := []) (a := 58) (mx := 1) (ci := 7) jF_65_1 kd58 (by decide) rfl rfl rfl rfl rfl (by omega) (by omega) rfl (pc2 := 4) ?_
  have b1 := GI.b hg 58 5 kd58 (lo := 0) (hi := 16) rfl
  refine wp_use (m_44_r58 σ hg   _ _ (by omega) (by omega)) ?_
  rintro _ _ ⟨z5, rfl, h6, rfl, p2⟩
  show WP 65 4 [(0, .ref 58), (1, iV pc_)] [iV z5] _ _ _ _
  refine wp_z_eq jF_65_4 (m_rgb h6 rfl) rfl (pc2 := 7) ?_ ?_
  · intro h7
    replace p2 := p2 (by omega)
    refine wp_al1 jF_65_9 rfl rfl (pc2 := 10) ?_
    refine wp_gr (b := 62) jF_65_10 kd58 (by decide) (c := 7) rfl rfl rfl (pc2 := 13) ?_
    refine wp_al1 jF_65_13 rfl rfl (pc2 := 14) ?_
    refine wp_gi jF_65_14 kd58 (by decide) rfl rfl rfl (pc2 := 17) ?_
    refine wp_il1 jF_65_17 rfl rfl (pc2 := 18) ?_
    refine wp_iast (n := 8) jF_65_18 kd62 (by decide) rfl rfl (by omega) (by omega) rfl (pc2 := 19) hg (lo := (-2147483648)) (hi := 2147483647) rfl (by omega) (by omega) ?_
    intro τ8 g9 f10 e11
    refine wp_al1 jF_65_19 rfl rfl (pc2 := 20) ?_
    refine wp_dup jF_65_20 rfl rfl (pc2 := 21) ?_
    refine wp_gi jF_65_21 kd58 (by decide) rfl (FRw.na f10 (by decide)) rfl (pc2 := 24) ?_
    refine wp_ic jF_65_24 rfl (pc2 := 25) ?_
    refine wp_add jF_65_25 rfl (pc2 := 26) ?_
    refine wp_pi jF_65_26 kd58 (by decide) rfl rfl rfl (pc2 := 29) g9 (lo := 0) (hi := 16) rfl (by omega) (by omega) ?_
    intro τ12 g13 f14 e15
    refine wp_ic jF_65_29 rfl (pc2 := 30) ?_
    refine wp_ri jF_65_30 rfl ?_
    have q16 : (τ12.1 58 5) = ((σ.1 58 5) + 1) := e15
    exact ⟨1, rfl, ⟨by omega, by omega⟩, g13, (FR.w (FR.w FR.rf f10 rfl) f14 rfl), (by omega)⟩
  · intro h7
    clear p2
    refine wp_ic jF_65_7 rfl (pc2 := 8) ?_
    refine wp_ri jF_65_8 rfl ?_
    exact ⟨0, rfl, ⟨by omega, by omega⟩, hg, FR.rf, (by omega)⟩
