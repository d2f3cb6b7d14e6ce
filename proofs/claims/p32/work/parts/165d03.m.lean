set_option maxHeartbeats 4000000 in
set_option maxRecDepth 20000 in
/-- Shorts.fewestFor -/
theorem m_125_r93_20 (σ : jM) (hg : GI σ) (goal : Int64) (whose : Int) (hl_whose : 0 ≤ whose) (hu_whose : whose ≤ 1) (what : Int) (hl_what : (-2147483648) ≤ what) (hu_what : what ≤ 2147483647)  (fr lo : Nat) (hfr : 4 ≤ fr) (hlo : 106 ≤ lo) : WP 125 0 (lv_args 0 [.ref 93, .ref 20, .long goal, iV whose, iV what]) [] fr lo σ (fun v τ => ∃ z : Int, v = some (iV z) ∧ ((-2147483648) ≤ z ∧ z ≤ 2147483647) ∧ GI τ ∧ FR WS σ τ) := by
  show WP 125 0 [(0, .ref 93), (1, .ref 20), (2, .long goal), (4, iV whose), (5, iV what)] [] _ _ _ _
  refine wp_il2 jF_125_0 rfl rfl (pc2 := 2) ?_
  refine wp_z_lt jF_125_2 ⟨by omega, by omega⟩ rfl (pc2 := 5) ?_ ?_
  · intro h1
    refine wp_ic jF_125_26 rfl (pc2 := 27) ?_
    refine wp_ri jF_125_27 rfl ?_
    exact ⟨(-1), rfl, ⟨by omega, by omega⟩, hg, FR.rf⟩
  · intro h1
    refine wp_il2 jF_125_5 rfl rfl (pc2 := 7) ?_
    refine wp_ic jF_125_7 rfl (pc2 := 8) ?_
    refine wp_i_ge jF_125_8 ⟨by omega, by omega⟩ (m_rgl rfl) rfl (pc2 := 11) ?_ ?_
    · intro h2
      refine wp_ic jF_125_26 rfl (pc2 := 27) ?_
      refine wp_ri jF_125_27 rfl ?_
      exact ⟨(-1), rfl, ⟨by omega, by omega⟩, hg, FR.rf⟩
    · intro h2
      refine wp_il2 jF_125_11 rfl rfl (pc2 := 13) ?_
      refine wp_z_lt jF_125_13 ⟨by omega, by omega⟩ rfl (pc2 := 16) ?_ ?_
      · intro h3; exfalso; omega
      · intro h3
        refine wp_il2 jF_125_16 rfl rfl (pc2 := 18) ?_
        refine wp_al1 jF_125_18 rfl rfl (pc2 := 19) ?_
        refine wp_gr (b := 99) jF_125_19 kd93 (by decide) (c := 199) rfl rfl rfl (pc2 := 22) ?_
        refine wp_len (n := 2) (t := 1) jF_125_22 kd99 (by decide) rfl rfl (pc2 := 23) ?_
        refine wp_i_lt jF_125_23 ⟨by omega, by omega⟩ (m_rgl rfl) rfl (pc2 := 26) ?_ ?_
        · intro h4
          refine wp_il2 jF_125_28 rfl rfl (pc2 := 30) ?_
          refine wp_ic jF_125_30 rfl (pc2 := 31) ?_
          refine wp_mul jF_125_31 rfl (pc2 := 32) ?_
          refine wp_is2 (lv2 := [(0, .ref 93), (1, .ref 20), (2, .long goal), (4, iV whose), (5, iV what), (6, iV (whose * 4))]) jF_125_32 rfl rfl rfl (pc2 := 34) ?_
          refine wp_al1 jF_125_34 rfl rfl (pc2 := 35) ?_
          refine wp_gr (b := 100) jF_125_35 kd93 (by decide) (c := 200) rfl rfl rfl (pc2 := 38) ?_
          refine wp_il2 jF_125_38 rfl rfl (pc2 := 40) ?_
          have b5 := GI.b hg 100 whose.toNat kd100 (lo := 0) (hi := 1) rfl
          refine wp_bald (n := 2) (e := (σ.1 100 whose.toNat)) jF_125_40 kd100 (by decide) rfl rfl (by omega) (by omega) rfl rfl (pc2 := 41) ?_
          refine wp_z_eq jF_125_41 (m_rgb b5 rfl) rfl (pc2 := 44) ?_ ?_
          · intro h6
            refine wp_al1 jF_125_56 rfl rfl (pc2 := 57) ?_
            refine wp_al1 jF_125_57 rfl rfl (pc2 := 58) ?_
            refine wp_cV (as := [.ref 20]) (rest := []) (a := 93) (mx := 2) (ci := 5) jF_125_58 kd93 (by decide) rfl rfl rfl rfl rfl (by omega) (by omega) rfl (pc2 := 61) ?_
            refine wp_use (m_126_r93_20 σ hg   _ _ (by omega) (by omega)) ?_
            rintro _ τ7 ⟨rfl, g8, f9⟩
            show WP 125 61 [(0, .ref 93), (1, .ref 20), (2, .long goal), (4, iV whose), (5, iV what), (6, iV (whose * 4))] [] _ _ _ _
            refine wp_al1 jF_125_61 rfl rfl (pc2 := 62) ?_
            refine wp_ll1 jF_125_62 rfl rfl (pc2 := 63) ?_
            refine wp_il2 jF_125_63 rfl rfl (pc2 := 65) ?_
            refine wp_cV (as := [.long goal, iV (whose * 4)]) (rest := []) (a := 93) (mx := 5) (ci := 5) jF_125_65 kd93 (by decide) rfl rfl rfl rfl rfl (by omega) (by omega) rfl (pc2 := 68) ?_
            refine wp_use (m_133_r93 τ7 g8 goal (whose * 4) (by omega) (by omega)  _ _ (by omega) (by omega)) ?_
            rintro _ τ10 ⟨rfl, g11, f12⟩
            show WP 125 68 [(0, .ref 93), (1, .ref 20), (2, .long goal), (4, iV whose), (5, iV what), (6, iV (whose * 4))] [] _ _ _ _
            refine wp_al1 jF_125_68 rfl rfl (pc2 := 69) ?_
            refine wp_gr (b := 99) jF_125_69 kd93 (by decide) (c := 199) rfl rfl rfl (pc2 := 72) ?_
            refine wp_il2 jF_125_72 rfl rfl (pc2 := 74) ?_
            refine wp_ll1 jF_125_74 rfl rfl (pc2 := 75) ?_
            refine wp_last (n := 2) jF_125_75 kd99 (by decide) rfl rfl (by omega) (by omega) rfl (pc2 := 76) g11 ?_
            intro τ13 g14 f15
            refine wp_al1 jF_125_76 rfl rfl (pc2 := 77) ?_
            refine wp_gr (b := 100) jF_125_77 kd93 (by decide) (c := 200) rfl rfl rfl (pc2 := 80) ?_
            refine wp_il2 jF_125_80 rfl rfl (pc2 := 82) ?_
            refine wp_ic jF_125_82 rfl (pc2 := 83) ?_
            refine wp_bast (n := 2) jF_125_83 kd100 (by decide) rfl rfl (by omega) (by omega) rfl (pc2 := 84) g14 (lo := 0) (hi := 1) rfl (by omega) (by omega) (by decide) (by decide) ?_
            intro τ16 g17 f18 e19
            refine wp_al1 jF_125_84 rfl rfl (pc2 := 85) ?_
            refine wp_gr (b := 101) jF_125_85 kd93 (by decide) (c := 201) rfl rfl rfl (pc2 := 88) ?_
            refine wp_il2 jF_125_88 rfl rfl (pc2 := 90) ?_
            refine wp_il2 jF_125_90 rfl rfl (pc2 := 92) ?_
            refine wp_add jF_125_92 rfl (pc2 := 93) ?_
            have b20 := GI.b g11 101 ((whose * 4) + what).toNat kd101 (lo := (-2147483648)) (hi := 2147483647) rfl
            refine wp_iald (n := 8) (e := (τ10.1 101 ((whose * 4) + what).toNat)) jF_125_93 kd101 (by decide) rfl rfl (by omega) (by omega) ((FRw.na f18 (by decide)).trans (FRw.na f15 (by decide))) rfl (pc2 := 94) ?_
            refine wp_ri jF_125_94 rfl ?_
            exact ⟨(τ10.1 101 ((whose * 4) + what).toNat), rfl, ⟨by omega, by omega⟩, g17, (FR.w (FR.w (FR.up f9 f12 sb_WS_WS) f15 rfl) f18 rfl)⟩
          · intro h6
            refine wp_al1 jF_125_44 rfl rfl (pc2 := 45) ?_
            refine wp_gr (b := 99) jF_125_45 kd93 (by decide) (c := 199) rfl rfl rfl (pc2 := 48) ?_
            refine wp_il2 jF_125_48 rfl rfl (pc2 := 50) ?_
            refine wp_lald (n := 2) jF_125_50 kd99 (by decide) rfl rfl (by omega) (by omega) rfl (pc2 := 51) ?_
            intro y21
            refine wp_ll1 jF_125_51 rfl rfl (pc2 := 52) ?_
            refine wp_anyL (pc2 := 53) jF_125_52 rfl rfl ?_
            intro z22 h23
            refine wp_z_eq jF_125_53 (m_rgb h23 rfl) rfl (pc2 := 56) ?_ ?_
            · intro h24
              refine wp_al1 jF_125_84 rfl rfl (pc2 := 85) ?_
              refine wp_gr (b := 101) jF_125_85 kd93 (by decide) (c := 201) rfl rfl rfl (pc2 := 88) ?_
              refine wp_il2 jF_125_88 rfl rfl (pc2 := 90) ?_
              refine wp_il2 jF_125_90 rfl rfl (pc2 := 92) ?_
              refine wp_add jF_125_92 rfl (pc2 := 93) ?_
              have b25 := GI.b hg 101 ((whose * 4) + what).toNat kd101 (lo := (-2147483648)) (hi := 2147483647) rfl
              refine wp_iald (n := 8) (e := (σ.1 101 ((whose * 4) + what).toNat)) jF_125_93 kd101 (by decide) rfl rfl (by omega) (by omega) rfl rfl (pc2 := 94) ?_
              refine wp_ri jF_125_94 rfl ?_
              exact ⟨(σ.1 101 ((whose * 4) + what).toNat), rfl, ⟨by omega, by omega⟩, hg, FR.rf⟩
            · intro h24
              refine wp_al1 jF_125_56 rfl rfl (pc2 := 57) ?_
              refine wp_al1 jF_125_57 rfl rfl (pc2 := 58) ?_
              refine wp_cV (as := [.ref 20]) (rest := []) (a := 93) (mx := 2) (ci := 5) jF_125_58 kd93 (by decide) rfl rfl rfl rfl rfl (by omega) (by omega) rfl (pc2 := 61) ?_
              refine wp_use (m_126_r93_20 σ hg   _ _ (by omega) (by omega)) ?_
              rintro _ τ26 ⟨rfl, g27, f28⟩
              show WP 125 61 [(0, .ref 93), (1, .ref 20), (2, .long goal), (4, iV whose), (5, iV what), (6, iV (whose * 4))] [] _ _ _ _
              refine wp_al1 jF_125_61 rfl rfl (pc2 := 62) ?_
              refine wp_ll1 jF_125_62 rfl rfl (pc2 := 63) ?_
              refine wp_il2 jF_125_63 rfl rfl (pc2 := 65) ?_
              refine wp_cV (as := [.long goal, iV (whose * 4)]) (rest := []) (a := 93) (mx := 5) (ci := 5) jF_125_65 kd93 (by decide) rfl rfl rfl rfl rfl (by omega) (by omega) rfl (pc2 := 68) ?_
              refine wp_use (m_133_r93 τ26 g27 goal (whose * 4) (by omega) (by omega)  _ _ (by omega) (by omega)) ?_
              rintro _ τ29 ⟨rfl, g30, f31⟩
              show WP 125 68 [(0, .ref 93), (1, .ref 20), (2, .long goal), (4, iV whose), (5, iV what), (6, iV (whose * 4))] [] _ _ _ _
              refine wp_al1 jF_125_68 rfl rfl (pc2 := 69) ?_
              refine wp_gr (b := 99) jF_125_69 kd93 (by decide) (c := 199) rfl rfl rfl (pc2 := 72) ?_
              refine wp_il2 jF_125_72 rfl rfl (pc2 := 74) ?_
              refine wp_ll1 jF_125_74 rfl rfl (pc2 := 75) ?_
              refine wp_last (n := 2) jF_125_75 kd99 (by decide) rfl rfl (by omega) (by omega) rfl (pc2 := 76) g30 ?_
              intro τ32 g33 f34
              refine wp_al1 jF_125_76 rfl rfl (pc2 := 77) ?_
              refine wp_gr (b := 100) jF_125_77 kd93 (by decide) (c := 200) rfl rfl rfl (pc2 := 80) ?_
              refine wp_il2 jF_125_80 rfl rfl (pc2 := 82) ?_
              refine wp_ic jF_125_82 rfl (pc2 := 83) ?_
              refine wp_bast (n := 2) jF_125_83 kd100 (by decide) rfl rfl (by omega) (by omega) rfl (pc2 := 84) g33 (lo := 0) (hi := 1) rfl (by omega) (by omega) (by decide) (by decide) ?_
              intro τ35 g36 f37 e38
              refine wp_al1 jF_125_84 rfl rfl (pc2 := 85) ?_
              refine wp_gr (b := 101) jF_125_85 kd93 (by decide) (c := 201) rfl rfl rfl (pc2 := 88) ?_
              refine wp_il2 jF_125_88 rfl rfl (pc2 := 90) ?_
              refine wp_il2 jF_125_90 rfl rfl (pc2 := 92) ?_
              refine wp_add jF_125_92 rfl (pc2 := 93) ?_
              have b39 := GI.b g30 101 ((whose * 4) + what).toNat kd101 (lo := (-2147483648)) (hi := 2147483647) rfl
              refine wp_iald (n := 8) (e := (τ29.1 101 ((whose * 4) + what).toNat)) jF_125_93 kd101 (by decide) rfl rfl (by omega) (by omega) ((FRw.na f37 (by decide)).trans (FRw.na f34 (by decide))) rfl (pc2 := 94) ?_
              refine wp_ri jF_125_94 rfl ?_
              exact ⟨(τ29.1 101 ((whose * 4) + what).toNat), rfl, ⟨by omega, by omega⟩, g36, (FR.w (FR.w (FR.up f28 f31 sb_WS_WS) f34 rfl) f37 rfl)⟩
        · intro h4; exfalso; omega
set_option maxHeartbeats 4000000 in
set_option maxRecDepth 20000 in
/-- Shorts.fewestFor -/
theorem m_125_r93_45 (σ : jM) (hg : GI σ) (goal : Int64) (whose : Int) (hl_whose : 0 ≤ whose) (hu_whose : whose ≤ 1) (what : Int) (hl_what : (-2147483648) ≤ what) (hu_what : what ≤ 2147483647)  (fr lo : Nat) (hfr : 4 ≤ fr) (hlo : 106 ≤ lo) : WP 125 0 (lv_args 0 [.ref 93, .ref 45, .long goal, iV whose, iV what]) [] fr lo σ (fun v τ => ∃ z : Int, v = some (iV z) ∧ ((-2147483648) ≤ z ∧ z ≤ 2147483647) ∧ GI τ ∧ FR WS σ τ) := by
  show WP 125 0 [(0, .ref 93), (1, .ref 45), (2, .long goal), (4, iV whose), (5, iV what)] [] _ _ _ _
  refine wp_il2 jF_125_0 rfl rfl (pc2 := 2) ?_
  refine wp_z_lt jF_125_2 ⟨by omega, by omega⟩ rfl (pc2 := 5) ?_ ?_
  · intro h1
    refine wp_ic jF_125_26 rfl (pc2 := 27) ?_
    refine wp_ri jF_125_27 rfl ?_
    exact ⟨(-1), rfl, ⟨by omega, by omega⟩, hg, FR.rf⟩
  · intro h1
    refine wp_il2 jF_125_5 rfl rfl (pc2 := 7) ?_
    refine wp_ic jF_125_7 rfl (pc2 := 8) ?_
    refine wp_i_ge jF_125_8 ⟨by omega, by omega⟩ (m_rgl rfl) rfl (pc2 := 11) ?_ ?_
    · intro h2
      refine wp_ic jF_125_26 rfl (pc2 := 27) ?_
      refine wp_ri jF_125_27 rfl ?_
      exact ⟨(-1), rfl, ⟨by omega, by omega⟩, hg, FR.rf⟩
    · intro h2
      refine wp_il2 jF_125_11 rfl rfl (pc2 := 13) ?_
      refine wp_z_lt jF_125_13 ⟨by omega, by omega⟩ rfl (pc2 := 16) ?_ ?_
      · intro h3; exfalso; omega
      · intro h3
        refine wp_il2 jF_125_16 rfl rfl (pc2 := 18) ?_
        refine wp_al1 jF_125_18 rfl rfl (pc2 := 19) ?_
        refine wp_gr (b := 99) jF_125_19 kd93 (by decide) (c := 199) rfl rfl rfl (pc2 := 22) ?_
        refine wp_len (n := 2) (t := 1) jF_125_22 kd99 (by decide) rfl rfl (pc2 := 23) ?_
        refine wp_i_lt jF_125_23 ⟨by omega, by omega⟩ (m_rgl rfl) rfl (pc2 := 26) ?_ ?_
        · intro h4
          refine wp_il2 jF_125_28 rfl rfl (pc2 := 30) ?_
          refine wp_ic jF_125_30 rfl (pc2 := 31) ?_
          refine wp_mul jF_125_31 rfl (pc2 := 32) ?_
          refine wp_is2 (lv2 := [(0, .ref 93), (1, .ref 45), (2, .long goal), (4, iV whose), (5, iV what), (6, iV (whose * 4))]) jF_125_32 rfl rfl rfl (pc2 := 34) ?_
          refine wp_al1 jF_125_34 rfl rfl (pc2 := 35) ?_
          refine wp_gr (b := 100) jF_125_35 kd93 (by decide) (c := 200) rfl rfl rfl (pc2 := 38) ?_
          refine wp_il2 jF_125_38 rfl rfl (pc2 := 40) ?_
          have b5 := GI.b hg 100 whose.toNat kd100 (lo := 0) (hi := 1) rfl
          refine wp_bald (n := 2) (e := (σ.1 100 whose.toNat)) jF_125_40 kd100 (by decide) rfl rfl (by omega) (by omega) rfl rfl (pc2 := 41) ?_
          refine wp_z_eq jF_125_41 (m_rgb b5 rfl) rfl (pc2 := 44) ?_ ?_
          · intro h6
            refine wp_al1 jF_125_56 rfl rfl (pc2 := 57) ?_
            refine wp_al1 jF_125_57 rfl rfl (pc2 := 58) ?_
            refine wp_cV (as := [.ref 45]) (rest := []) (a := 93) (mx := 2) (ci := 5) jF_125_58 kd93 (by decide) rfl rfl rfl rfl rfl (by omega) (by omega) rfl (pc2 := 61) ?_
            refine wp_use (m_126_r93_45 σ hg   _ _ (by omega) (by omega)) ?_
            rintro _ τ7 ⟨rfl, g8, f9⟩
            show WP 125 61 [(0, .ref 93), (1, .ref 45), (2, .long goal), (4, iV whose), (5, iV what), (6, iV (whose * 4))] [] _ _ _ _
            refine wp_al1 jF_125_61 rfl rfl (pc2 := 62) ?_
            refine wp_ll1 jF_125_62 rfl rfl (pc2 := 63) ?_
            refine wp_il2 jF_125_63 rfl rfl (pc2 := 65) ?_
            refine wp_cV (as := [.long goal, iV (whose * 4)]) (rest := []) (a := 93) (mx := 5) (ci := 5) jF_125_65 kd93 (by decide) rfl rfl rfl rfl rfl (by omega) (by omega) rfl (pc2 := 68) ?_
            refine wp_use (m_133_r93 τ7 g8 goal (whose * 4) (by omega) (by omega)  _ _ (by omega) (by omega)) ?_
            rintro _ τ10 ⟨rfl, g11, f12⟩
            show WP 125 68 [(0, .ref 93), (1, .ref 45), (2, .long goal), (4, iV whose), (5, iV what), (6, iV (whose * 4))] [] _ _ _ _
            refine wp_al1 jF_125_68 rfl rfl (pc2 := 69) ?_
            refine wp_gr (b := 99) jF_125_69 kd93 (by decide) (c := 199) rfl rfl rfl (pc2 := 72) ?_
            refine wp_il2 jF_125_72 rfl rfl (pc2 := 74) ?_
            refine wp_ll1 jF_125_74 rfl rfl (pc2 := 75) ?_
            refine wp_last (n := 2) jF_125_75 kd99 (by decide) rfl rfl (by omega) (by omega) rfl (pc2 := 76) g11 ?_
            intro τ13 g14 f15
            refine wp_al1 jF_125_76 rfl rfl (pc2 := 77) ?_
            refine wp_gr (b := 100) jF_125_77 kd93 (by decide) (c := 200) rfl rfl rfl (pc2 := 80) ?_
            refine wp_il2 jF_125_80 rfl rfl (pc2 := 82) ?_
            refine wp_ic jF_125_82 rfl (pc2 := 83) ?_
            refine wp_bast (n := 2) jF_125_83 kd100 (by decide) rfl rfl (by omega) (by omega) rfl (pc2 := 84) g14 (lo := 0) (hi := 1) rfl (by omega) (by omega) (by decide) (by decide) ?_
            intro τ16 g17 f18 e19
            refine wp_al1 jF_125_84 rfl rfl (pc2 := 85) ?_
            refine wp_gr (b := 101) jF_125_85 kd93 (by decide) (c := 201) rfl rfl rfl (pc2 := 88) ?_
            refine wp_il2 jF_125_88 rfl rfl (pc2 := 90) ?_
            refine wp_il2 jF_125_90 rfl rfl (pc2 := 92) ?_
            refine wp_add jF_125_92 rfl (pc2 := 93) ?_
            have b20 := GI.b g11 101 ((whose * 4) + what).toNat kd101 (lo := (-2147483648)) (hi := 2147483647) rfl
            refine wp_iald (n := 8) (e := (τ10.1 101 ((whose * 4) + what).toNat)) jF_125_93 kd101 (by decide) rfl rfl (by omega) (by omega) ((FRw.na f18 (by decide)).trans (FRw.na f15 (by decide))) rfl (pc2 := 94) ?_
            refine wp_ri jF_125_94 rfl ?_
            exact ⟨(τ10.1 101 ((whose * 4) + what).toNat), rfl, ⟨by omega, by omega⟩, g17, (FR.w (FR.w (FR.up f9 f12 sb_WS_WS) f15 rfl) f18 rfl)⟩
          · intro h6
            refine wp_al1 jF_125_44 rfl rfl (pc2 := 45) ?_
            refine wp_gr (b := 99) jF_125_45 kd93 (by decide) (c := 199) rfl rfl rfl (pc2 := 48) ?_
            refine wp_il2 jF_125_48 rfl rfl (pc2 := 50) ?_
            refine wp_lald (n := 2) jF_125_50 kd99 (by decide) rfl rfl (by omega) (by omega) rfl (pc2 := 51) ?_
            intro y21
            refine wp_ll1 jF_125_51 rfl rfl (pc2 := 52) ?_
            refine wp_anyL (pc2 := 53) jF_125_52 rfl rfl ?_
            intro z22 h23
            refine wp_z_eq jF_125_53 (m_rgb h23 rfl) rfl (pc2 := 56) ?_ ?_
            · intro h24
              refine wp_al1 jF_125_84 rfl rfl (pc2 := 85) ?_
              refine wp_gr (b := 101) jF_125_85 kd93 (by decide) (c := 201) rfl rfl rfl (pc2 := 88) ?_
              refine wp_il2 jF_125_88 rfl rfl (pc2 := 90) ?_
              refine wp_il2 jF_125_90 rfl rfl (pc2 := 92) ?_
              refine wp_add jF_125_92 rfl (pc2 := 93) ?_
              have b25 := GI.b hg 101 ((whose * 4) + what).toNat kd101 (lo := (-2147483648)) (hi := 2147483647) rfl
              refine wp_iald (n := 8) (e := (σ.1 101 ((whose * 4) + what).toNat)) jF_125_93 kd101 (by decide) rfl rfl (by omega) (by omega) rfl rfl (pc2 := 94) ?_
              refine wp_ri jF_125_94 rfl ?_
              exact ⟨(σ.1 101 ((whose * 4) + what).toNat), rfl, ⟨by omega, by omega⟩, hg, FR.rf⟩
            · intro h24
              refine wp_al1 jF_125_56 rfl rfl (pc2 := 57) ?_
              refine wp_al1 jF_125_57 rfl rfl (pc2 := 58) ?_
              refine wp_cV (as := [.ref 45]) (rest := []) (a := 93) (mx := 2) (ci := 5) jF_125_58 kd93 (by decide) rfl rfl rfl rfl rfl (by omega) (by omega) rfl (pc2 := 61) ?_
              refine wp_use (m_126_r93_45 σ hg   _ _ (by omega) (by omega)) ?_
              rintro _ τ26 ⟨rfl, g27, f28⟩
              show WP 125 61 [(0, .ref 93), (1, .ref 45), (2, .long goal), (4, iV whose), (5, iV what), (6, iV (whose * 4))] [] _ _ _ _
              refine wp_al1 jF_125_61 rfl rfl (pc2 := 62) ?_
              refine wp_ll1 jF_125_62 rfl rfl (pc2 := 63) ?_
              refine wp_il2 jF_125_63 rfl rfl (pc2 := 65) ?_
              refine wp_cV (as := [.long goal, iV (whose * 4)]) (rest := []) (a := 93) (mx := 5) (ci := 5) jF_125_65 kd93 (by decide) rfl rfl rfl rfl rfl (by omega) (by omega) rfl (pc2 := 68) ?_
              refine wp_use (m_133_r93 τ26 g27 goal (whose * 4) (by omega) (by omega)  _ _ (by omega) (by omega)) ?_
              rintro _ τ29 ⟨rfl, g30, f31⟩
              show WP 125 68 [(0, .ref 93), (1, .ref 45), (2, .long goal), (4, iV whose), (5, iV what), (6, iV (whose * 4))] [] _ _ _ _
              refine wp_al1 jF_125_68 rfl rfl (pc2 := 69) ?_
              refine wp_gr (b := 99) jF_125_69 kd93 (by decide) (c := 199) rfl rfl rfl (pc2 := 72) ?_
              refine wp_il2 jF_125_72 rfl rfl (pc2 := 74) ?_
              refine wp_ll1 jF_125_74 rfl rfl (pc2 := 75) ?_
              refine wp_last (n := 2) jF_125_75 kd99 (by decide) rfl rfl (by omega) (by omega) rfl (pc2 := 76) g30 ?_
              intro τ32 g33 f34
              refine wp_al1 jF_125_76 rfl rfl (pc2 := 77) ?_
              refine wp_gr (b := 100) jF_125_77 kd93 (by decide) (c := 200) rfl rfl rfl (pc2 := 80) ?_
              refine wp_il2 jF_125_80 rfl rfl (pc2 := 82) ?_
              refine wp_ic jF_125_82 rfl (pc2 := 83) ?_
              refine wp_bast (n := 2) jF_125_83 kd100 (by decide) rfl rfl (by omega) (by omega) rfl (pc2 := 84) g33 (lo := 0) (hi := 1) rfl (by omega) (by omega) (by decide) (by decide) ?_
              intro τ35 g36 f37 e38
              refine wp_al1 jF_125_84 rfl rfl (pc2 := 85) ?_
              refine wp_gr (b := 101) jF_125_85 kd93 (by decide) (c := 201) rfl rfl rfl (pc2 := 88) ?_
              refine wp_il2 jF_125_88 rfl rfl (pc2 := 90) ?_
              refine wp_il2 jF_125_90 rfl rfl (pc2 := 92) ?_
              refine wp_add jF_125_92 rfl (pc2 := 93) ?_
              have b39 := GI.b g30 101 ((whose * 4) + what).toNat kd101 (lo := (-2147483648)) (hi := 2147483647) rfl
              refine wp_iald (n := 8) (e := (τ29.1 101 ((whose * 4) + what).toNat)) jF_125_93 kd101 (by decide) rfl rfl (by omega) (by omega) ((FRw.na f37 (by decide)).trans (FRw.na f34 (by decide))) rfl (pc2 := 94) ?_
              refine wp_ri jF_125_94 rfl ?_
              exact ⟨(τ29.1 101 ((whose * 4) + what).toNat), rfl, ⟨by omega, by omega⟩, g36, (FR.w (FR.w (FR.up f28 f31 sb_WS_WS) f34 rfl) f37 rfl)⟩
        · intro h4; exfalso; omega
