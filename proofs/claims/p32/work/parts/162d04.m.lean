set_option maxHeartbeats 4000000 in
set_option maxRecDepth 20000 in
/-- M.restore -/
theorem m_357_z (σ : jM) (hg : GI σ)  (pre0 : (l0 σ) = 22) (pre1 : (l1 σ) = 22) (fr lo : Nat) (hfr : 3 ≤ fr) (hlo : 70 ≤ lo) : WP 357 0 (lv_args 0 [.ref 117]) [] fr lo σ (fun v τ => ∃ z : Int, v = some (iV z) ∧ (0 ≤ z ∧ z ≤ 1) ∧ GI τ ∧ FR Wrs σ τ ∧ ((l0 τ) = 22) ∧ ((l1 τ) = 22) ∧ ((τ.1 117 1) = 0)) := by
  show WP 357 0 [(0, .ref 117)] [] _ _ _ _
  refine wp_al1 jF_357_0 rfl rfl (pc2 := 1) ?_
  have b1 := GI.b hg 117 1 kd117 (lo := 0) (hi := 1600) rfl
  refine wp_gi jF_357_1 kd117 (by decide) rfl rfl rfl (pc2 := 4) ?_
  refine wp_is1 (lv2 := [(0, .ref 117), (1, iV (σ.1 117 1))]) jF_357_4 rfl rfl rfl (pc2 := 5) ?_
  refine wp_al1 jF_357_5 rfl rfl (pc2 := 6) ?_
  refine wp_ic jF_357_6 rfl (pc2 := 7) ?_
  refine wp_pi jF_357_7 kd117 (by decide) rfl rfl rfl (pc2 := 10) hg (lo := 0) (hi := 1600) rfl (by omega) (by omega) ?_
  intro τ2 g3 f4 e5
  refine wp_il1 jF_357_10 rfl rfl (pc2 := 11) ?_
  refine wp_ic jF_357_11 rfl (pc2 := 12) ?_
  refine wp_i_le jF_357_12 (m_rgb b1 rfl) (m_rgl rfl) rfl (pc2 := 15) ?_ ?_
  · intro h6
    refine wp_ic jF_357_49 rfl (pc2 := 50) ?_
    refine wp_is1 (lv2 := [(0, .ref 117), (1, iV (σ.1 117 1)), (2, iV 0)]) jF_357_50 rfl rfl rfl (pc2 := 51) ?_
    refine wp_il1 jF_357_51 rfl rfl (pc2 := 52) ?_
    refine wp_z_eq jF_357_52 (m_rgl rfl) rfl (pc2 := 55) ?_ ?_
    · intro h7
      refine wp_ic jF_357_66 rfl (pc2 := 67) ?_
      refine wp_is1 (lv2 := [(0, .ref 117), (1, iV (σ.1 117 1)), (2, iV 0), (3, iV 0)]) jF_357_67 rfl rfl rfl (pc2 := 68) ?_
      refine wp_il1 jF_357_68 rfl rfl (pc2 := 69) ?_
      refine wp_z_eq jF_357_69 (m_rgl rfl) rfl (pc2 := 72) ?_ ?_
      · intro h8
        refine wp_ic jF_357_99 rfl (pc2 := 100) ?_
        refine wp_is1 (lv2 := [(0, .ref 117), (1, iV (σ.1 117 1)), (2, iV 0), (3, iV 0)]) jF_357_100 rfl rfl rfl (pc2 := 101) ?_
        refine wp_il1 jF_357_101 rfl rfl (pc2 := 102) ?_
        refine wp_z_ne jF_357_102 (m_rgl rfl) rfl (pc2 := 105) ?_ ?_
        · intro h9; exfalso; omega
        · intro h9
          refine wp_al1 jF_357_105 rfl rfl (pc2 := 106) ?_
          refine wp_gr (b := 119) jF_357_106 kd117 (by decide) (c := 219) rfl rfl rfl (pc2 := 109) ?_
          refine wp_ic jF_357_109 rfl (pc2 := 110) ?_
          refine wp_du2 jF_357_110 rfl rfl (pc2 := 111) ?_
          have b10 := GI.b hg 119 5 kd119 (lo := (-2147483648)) (hi := 2147483647) rfl
          refine wp_iald (n := 6) (e := (σ.1 119 5)) jF_357_111 kd119 (by decide) rfl rfl (by omega) (by omega) (FRw.na f4 (by decide)) rfl (pc2 := 112) ?_
          refine wp_ic jF_357_112 rfl (pc2 := 113) ?_
          refine wp_any2 (pc2 := 114) jF_357_113 rfl rfl ?_
          intro z11 h12
          refine wp_iast (n := 6) jF_357_114 kd119 (by decide) rfl rfl (by omega) (by omega) rfl (pc2 := 115) g3 (lo := (-2147483648)) (hi := 2147483647) rfl (by omega) (by omega) ?_
          intro τ13 g14 f15 e16
          refine wp_ic jF_357_115 rfl (pc2 := 116) ?_
          refine wp_ri jF_357_116 rfl ?_
          have q17 : (l0 τ13) = (l0 σ) := ((l0_wr f15 (by decide)).trans (l0_wr f4 (by decide)))
          have q18 : (l1 τ13) = (l1 σ) := ((l1_wr f15 (by decide)).trans (l1_wr f4 (by decide)))
          have q19 : (τ13.1 117 1) = 0 := ((FRw.na f15 (by decide)).trans e5)
          exact ⟨0, rfl, ⟨by omega, by omega⟩, g14, (FR.w (FR.w FR.rf f4 rfl) f15 rfl), (by omega), (by omega), (by omega)⟩
      · intro h8; exfalso; omega
    · intro h7; exfalso; omega
  · intro h6
    refine wp_al1 jF_357_15 rfl rfl (pc2 := 16) ?_
    refine wp_gr (b := 118) jF_357_16 kd117 (by decide) (c := 218) rfl rfl rfl (pc2 := 19) ?_
    refine wp_il1 jF_357_19 rfl rfl (pc2 := 20) ?_
    refine wp_ic jF_357_20 rfl (pc2 := 21) ?_
    refine wp_sub jF_357_21 rfl (pc2 := 22) ?_
    have b20 := GI.b hg 118 ((σ.1 117 1) - 1).toNat kd118 (lo := 0) (hi := 255) rfl
    refine wp_iald (n := 1600) (e := (σ.1 118 ((σ.1 117 1) - 1).toNat)) jF_357_22 kd118 (by decide) rfl rfl (by omega) (by omega) (FRw.na f4 (by decide)) rfl (pc2 := 23) ?_
    refine wp_al1 jF_357_23 rfl rfl (pc2 := 24) ?_
    refine wp_gr (b := 118) jF_357_24 kd117 (by decide) (c := 218) rfl rfl rfl (pc2 := 27) ?_
    refine wp_il1 jF_357_27 rfl rfl (pc2 := 28) ?_
    refine wp_ic jF_357_28 rfl (pc2 := 29) ?_
    refine wp_sub jF_357_29 rfl (pc2 := 30) ?_
    refine wp_cS (as := [.ref 118, iV ((σ.1 117 1) - 1)]) (rest := [iV (σ.1 118 ((σ.1 117 1) - 1).toNat)]) (mx := 4) jF_357_30 rfl rfl rfl rfl (by omega) (by omega) rfl (pc2 := 33) ?_
    show WP 355 0 [(0, .ref 118), (1, iV ((σ.1 117 1) - 1))] [] _ _ _ _
    refine wp_bi jF_355_0 (by decide) rfl (pc2 := 2) ?_
    refine wp_is1 (lv2 := [(0, .ref 118), (1, iV ((σ.1 117 1) - 1)), (2, iV 101)]) jF_355_2 rfl rfl rfl (pc2 := 3) ?_
    refine wp_ic jF_355_3 rfl (pc2 := 4) ?_
    refine wp_is1 (lv2 := [(0, .ref 118), (1, iV ((σ.1 117 1) - 1)), (2, iV 101), (3, iV 0)]) jF_355_4 rfl rfl rfl (pc2 := 5) ?_
    refine wp_loop (α := Int × Int) (fun a => [(0, .ref 118), (1, iV ((σ.1 117 1) - 1)), (2, iV (a.1)), (3, iV (a.2))]) (fun a τ => ((-2147483648) ≤ a.1 ∧ a.1 ≤ 2147483647) ∧ (0 ≤ a.2 ∧ a.2 ≤ 1600) ∧ τ2 = τ) (fun a τ => Int.toNat (((σ.1 117 1) - 1) - (a.2))) (101, 0) τ2 ?_ ?_
    · skip
      exact ⟨⟨by (try dsimp only); omega, by (try dsimp only); omega⟩, ⟨by (try dsimp only); omega, by (try dsimp only); omega⟩, rfl⟩
    · rintro ⟨x21, x22⟩ _ ⟨h23, h24, rfl⟩ ih28
      try dsimp only at h23 h24
      show WP 355 5 [(0, .ref 118), (1, iV ((σ.1 117 1) - 1)), (2, iV x21), (3, iV x22)] [] _ _ _ _
      show WP 355 5 [(0, .ref 118), (1, iV ((σ.1 117 1) - 1)), (2, iV x21), (3, iV x22)] [] _ _ _ _
      refine wp_il1 jF_355_5 rfl rfl (pc2 := 6) ?_
      refine wp_il1 jF_355_6 rfl rfl (pc2 := 7) ?_
      refine wp_i_ge jF_355_7 (m_rgb h24 rfl) ⟨by omega, by omega⟩ rfl (pc2 := 10) ?_ ?_
      · intro h29
        refine wp_il1 jF_355_28 rfl rfl (pc2 := 29) ?_
        refine wp_ri jF_355_29 rfl ?_
        show WP 357 33 [(0, .ref 117), (1, iV (σ.1 117 1))] [iV x21, iV (σ.1 118 ((σ.1 117 1) - 1).toNat)] _ _ _ _
        refine wp_i_ne jF_357_33 (m_rgb b20 rfl) (m_rgb h23 rfl) rfl (pc2 := 36) ?_ ?_
        · intro h30
          refine wp_ic jF_357_49 rfl (pc2 := 50) ?_
          refine wp_is1 (lv2 := [(0, .ref 117), (1, iV (σ.1 117 1)), (2, iV 0)]) jF_357_50 rfl rfl rfl (pc2 := 51) ?_
          refine wp_il1 jF_357_51 rfl rfl (pc2 := 52) ?_
          refine wp_z_eq jF_357_52 (m_rgl rfl) rfl (pc2 := 55) ?_ ?_
          · intro h31
            refine wp_ic jF_357_66 rfl (pc2 := 67) ?_
            refine wp_is1 (lv2 := [(0, .ref 117), (1, iV (σ.1 117 1)), (2, iV 0), (3, iV 0)]) jF_357_67 rfl rfl rfl (pc2 := 68) ?_
            refine wp_il1 jF_357_68 rfl rfl (pc2 := 69) ?_
            refine wp_z_eq jF_357_69 (m_rgl rfl) rfl (pc2 := 72) ?_ ?_
            · intro h32
              refine wp_ic jF_357_99 rfl (pc2 := 100) ?_
              refine wp_is1 (lv2 := [(0, .ref 117), (1, iV (σ.1 117 1)), (2, iV 0), (3, iV 0)]) jF_357_100 rfl rfl rfl (pc2 := 101) ?_
              refine wp_il1 jF_357_101 rfl rfl (pc2 := 102) ?_
              refine wp_z_ne jF_357_102 (m_rgl rfl) rfl (pc2 := 105) ?_ ?_
              · intro h33; exfalso; omega
              · intro h33
                refine wp_al1 jF_357_105 rfl rfl (pc2 := 106) ?_
                refine wp_gr (b := 119) jF_357_106 kd117 (by decide) (c := 219) rfl rfl rfl (pc2 := 109) ?_
                refine wp_ic jF_357_109 rfl (pc2 := 110) ?_
                refine wp_du2 jF_357_110 rfl rfl (pc2 := 111) ?_
                have b34 := GI.b hg 119 5 kd119 (lo := (-2147483648)) (hi := 2147483647) rfl
                refine wp_iald (n := 6) (e := (σ.1 119 5)) jF_357_111 kd119 (by decide) rfl rfl (by omega) (by omega) (FRw.na f4 (by decide)) rfl (pc2 := 112) ?_
                refine wp_ic jF_357_112 rfl (pc2 := 113) ?_
                refine wp_any2 (pc2 := 114) jF_357_113 rfl rfl ?_
                intro z35 h36
                refine wp_iast (n := 6) jF_357_114 kd119 (by decide) rfl rfl (by omega) (by omega) rfl (pc2 := 115) g3 (lo := (-2147483648)) (hi := 2147483647) rfl (by omega) (by omega) ?_
                intro τ37 g38 f39 e40
                refine wp_ic jF_357_115 rfl (pc2 := 116) ?_
                refine wp_ri jF_357_116 rfl ?_
                have q41 : (l0 τ37) = (l0 σ) := ((l0_wr f39 (by decide)).trans (l0_wr f4 (by decide)))
                have q42 : (l1 τ37) = (l1 σ) := ((l1_wr f39 (by decide)).trans (l1_wr f4 (by decide)))
                have q43 : (τ37.1 117 1) = 0 := ((FRw.na f39 (by decide)).trans e5)
                exact ⟨0, rfl, ⟨by omega, by omega⟩, g38, (FR.w (FR.w FR.rf f4 rfl) f39 rfl), (by omega), (by omega), (by omega)⟩
            · intro h32; exfalso; omega
          · intro h31; exfalso; omega
        · intro h30
          refine wp_al1 jF_357_36 rfl rfl (pc2 := 37) ?_
          refine wp_ic jF_357_37 rfl (pc2 := 38) ?_
          refine wp_il1 jF_357_38 rfl rfl (pc2 := 39) ?_
          refine wp_cV (as := [iV 0, iV (σ.1 117 1)]) (rest := []) (a := 117) (mx := 4) (ci := 12) jF_357_39 kd117 (by decide) rfl rfl rfl rfl rfl (by omega) (by omega) rfl (pc2 := 42) ?_
          have q44 : (tp0 τ2) = (tp0 σ) := (tp0_wr f4 (by decide))
          have q45 : (tt0 τ2) = (tt0 σ) := (tt0_wr f4 (by decide))
          refine wp_use (m_358_0 τ2 g3 (σ.1 117 1) (by omega) (by omega)  _ _ (by omega) (by omega)) ?_
          rintro _ τ49 ⟨z52, rfl, h53, g50, f51, p46, p47, p48⟩
          show WP 357 42 [(0, .ref 117), (1, iV (σ.1 117 1))] [iV z52] _ _ _ _
          refine wp_z_eq jF_357_42 (m_rgb h53 rfl) rfl (pc2 := 45) ?_ ?_
          · intro h54
            clear p46
            clear p47
            refine wp_ic jF_357_49 rfl (pc2 := 50) ?_
            refine wp_is1 (lv2 := [(0, .ref 117), (1, iV (σ.1 117 1)), (2, iV 0)]) jF_357_50 rfl rfl rfl (pc2 := 51) ?_
            refine wp_il1 jF_357_51 rfl rfl (pc2 := 52) ?_
            refine wp_z_eq jF_357_52 (m_rgl rfl) rfl (pc2 := 55) ?_ ?_
            · intro h55
              refine wp_ic jF_357_66 rfl (pc2 := 67) ?_
              refine wp_is1 (lv2 := [(0, .ref 117), (1, iV (σ.1 117 1)), (2, iV 0), (3, iV 0)]) jF_357_67 rfl rfl rfl (pc2 := 68) ?_
              refine wp_il1 jF_357_68 rfl rfl (pc2 := 69) ?_
              refine wp_z_eq jF_357_69 (m_rgl rfl) rfl (pc2 := 72) ?_ ?_
              · intro h56
                refine wp_ic jF_357_99 rfl (pc2 := 100) ?_
                refine wp_is1 (lv2 := [(0, .ref 117), (1, iV (σ.1 117 1)), (2, iV 0), (3, iV 0)]) jF_357_100 rfl rfl rfl (pc2 := 101) ?_
                refine wp_il1 jF_357_101 rfl rfl (pc2 := 102) ?_
                refine wp_z_ne jF_357_102 (m_rgl rfl) rfl (pc2 := 105) ?_ ?_
                · intro h57; exfalso; omega
                · intro h57
                  refine wp_al1 jF_357_105 rfl rfl (pc2 := 106) ?_
                  refine wp_gr (b := 119) jF_357_106 kd117 (by decide) (c := 219) rfl rfl rfl (pc2 := 109) ?_
                  refine wp_ic jF_357_109 rfl (pc2 := 110) ?_
                  refine wp_du2 jF_357_110 rfl rfl (pc2 := 111) ?_
                  have b58 := GI.b hg 119 5 kd119 (lo := (-2147483648)) (hi := 2147483647) rfl
                  refine wp_iald (n := 6) (e := (σ.1 119 5)) jF_357_111 kd119 (by decide) rfl rfl (by omega) (by omega) ((FR.at f51 119 5 rfl).trans (FRw.na f4 (by decide))) rfl (pc2 := 112) ?_
                  refine wp_ic jF_357_112 rfl (pc2 := 113) ?_
                  refine wp_any2 (pc2 := 114) jF_357_113 rfl rfl ?_
                  intro z59 h60
                  refine wp_iast (n := 6) jF_357_114 kd119 (by decide) rfl rfl (by omega) (by omega) rfl (pc2 := 115) g50 (lo := (-2147483648)) (hi := 2147483647) rfl (by omega) (by omega) ?_
                  intro τ61 g62 f63 e64
                  refine wp_ic jF_357_115 rfl (pc2 := 116) ?_
                  refine wp_ri jF_357_116 rfl ?_
                  have q65 : (l0 τ61) = (l0 σ) := ((l0_wr f63 (by decide)).trans ((l0_fr f51 rfl (fun _ => rfl)).trans (l0_wr f4 (by decide))))
                  have q66 : (l1 τ61) = (l1 σ) := ((l1_wr f63 (by decide)).trans ((l1_fr f51 rfl (fun _ => rfl)).trans (l1_wr f4 (by decide))))
                  have q67 : (τ61.1 117 1) = 0 := ((FRw.na f63 (by decide)).trans ((FR.at f51 117 1 rfl).trans e5))
                  exact ⟨0, rfl, ⟨by omega, by omega⟩, g62, (FR.w (FR.up (FR.w FR.rf f4 rfl) f51 sb_Wtr_Wrs) f63 rfl), (by omega), (by omega), (by omega)⟩
              · intro h56; exfalso; omega
            · intro h55; exfalso; omega
          · intro h54
            replace p46 := p46 (by omega)
            replace p47 := p47 (by omega)
            refine wp_ic jF_357_45 rfl (pc2 := 46) ?_
            refine wp_go jF_357_46 ?_
            refine wp_is1 (lv2 := [(0, .ref 117), (1, iV (σ.1 117 1)), (2, iV 1)]) jF_357_50 rfl rfl rfl (pc2 := 51) ?_
            refine wp_il1 jF_357_51 rfl rfl (pc2 := 52) ?_
            refine wp_z_eq jF_357_52 (m_rgl rfl) rfl (pc2 := 55) ?_ ?_
            · intro h68; exfalso; omega
            · intro h68
              refine wp_al1 jF_357_55 rfl rfl (pc2 := 56) ?_
              refine wp_gr (b := 118) jF_357_56 kd117 (by decide) (c := 218) rfl rfl rfl (pc2 := 59) ?_
              refine wp_ic jF_357_59 rfl (pc2 := 60) ?_
              have b69 := GI.b hg 118 0 kd118 (lo := 0) (hi := 255) rfl
              refine wp_iald (n := 1600) (e := (σ.1 118 0)) jF_357_60 kd118 (by decide) rfl rfl (by omega) (by omega) ((FR.at f51 118 0 rfl).trans (FRw.na f4 (by decide))) rfl (pc2 := 61) ?_
              refine wp_ic jF_357_61 rfl (pc2 := 62) ?_
              refine wp_add jF_357_62 rfl (pc2 := 63) ?_
              refine wp_go jF_357_63 ?_
              refine wp_is1 (lv2 := [(0, .ref 117), (1, iV (σ.1 117 1)), (2, iV 1), (3, iV ((σ.1 118 0) + 1))]) jF_357_67 rfl rfl rfl (pc2 := 68) ?_
              refine wp_il1 jF_357_68 rfl rfl (pc2 := 69) ?_
              refine wp_z_eq jF_357_69 (m_rgl rfl) rfl (pc2 := 72) ?_ ?_
              · intro h70; exfalso; omega
              · intro h70
                refine wp_al1 jF_357_72 rfl rfl (pc2 := 73) ?_
                refine wp_il1 jF_357_73 rfl rfl (pc2 := 74) ?_
                refine wp_il1 jF_357_74 rfl rfl (pc2 := 75) ?_
                refine wp_cV (as := [iV ((σ.1 118 0) + 1), iV (σ.1 117 1)]) (rest := []) (a := 117) (mx := 4) (ci := 12) jF_357_75 kd117 (by decide) rfl rfl rfl rfl rfl (by omega) (by omega) rfl (pc2 := 78) ?_
                refine wp_use (m_358 τ49 g50 ((σ.1 118 0) + 1) (by omega) (by omega) (σ.1 117 1) (by omega) (by omega)  _ _ (by omega) (by omega)) ?_
                rintro _ τ72 ⟨z75, rfl, h76, g73, f74, p71⟩
                show WP 357 78 [(0, .ref 117), (1, iV (σ.1 117 1)), (2, iV 1), (3, iV ((σ.1 118 0) + 1))] [iV z75] _ _ _ _
                refine wp_z_eq jF_357_78 (m_rgb h76 rfl) rfl (pc2 := 81) ?_ ?_
                · intro h77
                  clear p71
                  refine wp_ic jF_357_99 rfl (pc2 := 100) ?_
                  refine wp_is1 (lv2 := [(0, .ref 117), (1, iV (σ.1 117 1)), (2, iV 0), (3, iV ((σ.1 118 0) + 1))]) jF_357_100 rfl rfl rfl (pc2 := 101) ?_
                  refine wp_il1 jF_357_101 rfl rfl (pc2 := 102) ?_
                  refine wp_z_ne jF_357_102 (m_rgl rfl) rfl (pc2 := 105) ?_ ?_
                  · intro h78; exfalso; omega
                  · intro h78
                    refine wp_al1 jF_357_105 rfl rfl (pc2 := 106) ?_
                    refine wp_gr (b := 119) jF_357_106 kd117 (by decide) (c := 219) rfl rfl rfl (pc2 := 109) ?_
                    refine wp_ic jF_357_109 rfl (pc2 := 110) ?_
                    refine wp_du2 jF_357_110 rfl rfl (pc2 := 111) ?_
                    have b79 := GI.b hg 119 5 kd119 (lo := (-2147483648)) (hi := 2147483647) rfl
                    refine wp_iald (n := 6) (e := (σ.1 119 5)) jF_357_111 kd119 (by decide) rfl rfl (by omega) (by omega) ((FR.at f74 119 5 rfl).trans ((FR.at f51 119 5 rfl).trans (FRw.na f4 (by decide)))) rfl (pc2 := 112) ?_
                    refine wp_ic jF_357_112 rfl (pc2 := 113) ?_
                    refine wp_any2 (pc2 := 114) jF_357_113 rfl rfl ?_
                    intro z80 h81
                    refine wp_iast (n := 6) jF_357_114 kd119 (by decide) rfl rfl (by omega) (by omega) rfl (pc2 := 115) g73 (lo := (-2147483648)) (hi := 2147483647) rfl (by omega) (by omega) ?_
                    intro τ82 g83 f84 e85
                    refine wp_ic jF_357_115 rfl (pc2 := 116) ?_
                    refine wp_ri jF_357_116 rfl ?_
                    have q86 : (l0 τ82) = (l0 σ) := ((l0_wr f84 (by decide)).trans ((l0_fr f74 rfl (fun _ => rfl)).trans ((l0_fr f51 rfl (fun _ => rfl)).trans (l0_wr f4 (by decide)))))
                    have q87 : (l1 τ82) = (l1 σ) := ((l1_wr f84 (by decide)).trans ((l1_fr f74 rfl (fun _ => rfl)).trans ((l1_fr f51 rfl (fun _ => rfl)).trans (l1_wr f4 (by decide)))))
                    have q88 : (τ82.1 117 1) = 0 := ((FRw.na f84 (by decide)).trans ((FR.at f74 117 1 rfl).trans ((FR.at f51 117 1 rfl).trans e5)))
                    exact ⟨0, rfl, ⟨by omega, by omega⟩, g83, (FR.w (FR.up (FR.up (FR.w FR.rf f4 rfl) f51 sb_Wtr_Wrs) f74 sb_Wtr_Wrs) f84 rfl), (by omega), (by omega), (by omega)⟩
                · intro h77
                  replace p71 := p71 (by omega)
                  refine wp_il1 jF_357_81 rfl rfl (pc2 := 82) ?_
                  refine wp_al1 jF_357_82 rfl rfl (pc2 := 83) ?_
                  refine wp_gr (b := 118) jF_357_83 kd117 (by decide) (c := 218) rfl rfl rfl (pc2 := 86) ?_
                  refine wp_il1 jF_357_86 rfl rfl (pc2 := 87) ?_
                  have b89 := GI.b hg 118 ((σ.1 118 0) + 1).toNat kd118 (lo := 0) (hi := 255) rfl
                  refine wp_iald (n := 1600) (e := (σ.1 118 ((σ.1 118 0) + 1).toNat)) jF_357_87 kd118 (by decide) rfl rfl (by omega) (by omega) ((FR.at f74 118 ((σ.1 118 0) + 1).toNat rfl).trans ((FR.at f51 118 ((σ.1 118 0) + 1).toNat rfl).trans (FRw.na f4 (by decide)))) rfl (pc2 := 88) ?_
                  refine wp_add jF_357_88 rfl (pc2 := 89) ?_
                  refine wp_ic jF_357_89 rfl (pc2 := 90) ?_
                  refine wp_add jF_357_90 rfl (pc2 := 91) ?_
                  refine wp_il1 jF_357_91 rfl rfl (pc2 := 92) ?_
                  refine wp_i_ne jF_357_92 ⟨by omega, by omega⟩ ⟨by omega, by omega⟩ rfl (pc2 := 95) ?_ ?_
                  · intro h90
                    refine wp_ic jF_357_99 rfl (pc2 := 100) ?_
                    refine wp_is1 (lv2 := [(0, .ref 117), (1, iV (σ.1 117 1)), (2, iV 0), (3, iV ((σ.1 118 0) + 1))]) jF_357_100 rfl rfl rfl (pc2 := 101) ?_
                    refine wp_il1 jF_357_101 rfl rfl (pc2 := 102) ?_
                    refine wp_z_ne jF_357_102 (m_rgl rfl) rfl (pc2 := 105) ?_ ?_
                    · intro h91; exfalso; omega
                    · intro h91
                      refine wp_al1 jF_357_105 rfl rfl (pc2 := 106) ?_
                      refine wp_gr (b := 119) jF_357_106 kd117 (by decide) (c := 219) rfl rfl rfl (pc2 := 109) ?_
                      refine wp_ic jF_357_109 rfl (pc2 := 110) ?_
                      refine wp_du2 jF_357_110 rfl rfl (pc2 := 111) ?_
                      have b92 := GI.b hg 119 5 kd119 (lo := (-2147483648)) (hi := 2147483647) rfl
                      refine wp_iald (n := 6) (e := (σ.1 119 5)) jF_357_111 kd119 (by decide) rfl rfl (by omega) (by omega) ((FR.at f74 119 5 rfl).trans ((FR.at f51 119 5 rfl).trans (FRw.na f4 (by decide)))) rfl (pc2 := 112) ?_
                      refine wp_ic jF_357_112 rfl (pc2 := 113) ?_
                      refine wp_any2 (pc2 := 114) jF_357_113 rfl rfl ?_
                      intro z93 h94
                      refine wp_iast (n := 6) jF_357_114 kd119 (by decide) rfl rfl (by omega) (by omega) rfl (pc2 := 115) g73 (lo := (-2147483648)) (hi := 2147483647) rfl (by omega) (by omega) ?_
                      intro τ95 g96 f97 e98
                      refine wp_ic jF_357_115 rfl (pc2 := 116) ?_
                      refine wp_ri jF_357_116 rfl ?_
                      have q99 : (l0 τ95) = (l0 σ) := ((l0_wr f97 (by decide)).trans ((l0_fr f74 rfl (fun _ => rfl)).trans ((l0_fr f51 rfl (fun _ => rfl)).trans (l0_wr f4 (by decide)))))
                      have q100 : (l1 τ95) = (l1 σ) := ((l1_wr f97 (by decide)).trans ((l1_fr f74 rfl (fun _ => rfl)).trans ((l1_fr f51 rfl (fun _ => rfl)).trans (l1_wr f4 (by decide)))))
                      have q101 : (τ95.1 117 1) = 0 := ((FRw.na f97 (by decide)).trans ((FR.at f74 117 1 rfl).trans ((FR.at f51 117 1 rfl).trans e5)))
                      exact ⟨0, rfl, ⟨by omega, by omega⟩, g96, (FR.w (FR.up (FR.up (FR.w FR.rf f4 rfl) f51 sb_Wtr_Wrs) f74 sb_Wtr_Wrs) f97 rfl), (by omega), (by omega), (by omega)⟩
                  · intro h90
                    refine wp_ic jF_357_95 rfl (pc2 := 96) ?_
                    refine wp_go jF_357_96 ?_
                    refine wp_is1 (lv2 := [(0, .ref 117), (1, iV (σ.1 117 1)), (2, iV 1), (3, iV ((σ.1 118 0) + 1))]) jF_357_100 rfl rfl rfl (pc2 := 101) ?_
                    refine wp_il1 jF_357_101 rfl rfl (pc2 := 102) ?_
                    refine wp_z_ne jF_357_102 (m_rgl rfl) rfl (pc2 := 105) ?_ ?_
                    · intro h102
                      refine wp_al1 jF_357_117 rfl rfl (pc2 := 118) ?_
                      refine wp_ic jF_357_118 rfl (pc2 := 119) ?_
                      refine wp_cV (as := [iV 1]) (rest := []) (a := 117) (mx := 3) (ci := 12) jF_357_119 kd117 (by decide) rfl rfl rfl rfl rfl (by omega) (by omega) rfl (pc2 := 122) ?_
                      have q103 : (l0 τ72) = (l0 σ) := ((l0_fr f74 rfl (fun _ => rfl)).trans ((l0_fr f51 rfl (fun _ => rfl)).trans (l0_wr f4 (by decide))))
                      have b104 := GI.b g73 117 49 kd117 (lo := 0) (hi := 61) rfl
                      have b105 := GI.b hg 148 0 kd148 (lo := 0) (hi := 60) rfl
                      have q106 : (τ72.1 148 0) = (σ.1 148 0) := ((FR.at f74 148 0 rfl).trans ((FR.at f51 148 0 rfl).trans (FRw.na f4 (by decide))))
                      refine wp_use (m_263_1 τ72 g73  (by omega) _ _ (by omega) (by omega)) ?_
                      rintro _ τ111 ⟨rfl, g112, f113, p107, p108, p109, p110⟩
                      show WP 357 122 [(0, .ref 117), (1, iV (σ.1 117 1)), (2, iV 1), (3, iV ((σ.1 118 0) + 1))] [] _ _ _ _
                      refine wp_al1 jF_357_122 rfl rfl (pc2 := 123) ?_
                      refine wp_ic jF_357_123 rfl (pc2 := 124) ?_
                      refine wp_il1 jF_357_124 rfl rfl (pc2 := 125) ?_
                      refine wp_cV (as := [iV 0, iV (σ.1 117 1)]) (rest := []) (a := 117) (mx := 4) (ci := 12) jF_357_125 kd117 (by decide) rfl rfl rfl rfl rfl (by omega) (by omega) rfl (pc2 := 128) ?_
                      have q114 : (tp0 τ111) = (tp0 σ) := ((tp0_fr f113 (fun _ => rfl)).trans ((tp0_fr f74 (fun _ => rfl)).trans ((tp0_fr f51 (fun _ => rfl)).trans (tp0_wr f4 (by decide)))))
                      have q115 : (tt0 τ111) = (tt0 σ) := ((tt0_fr f113 (fun _ => rfl)).trans ((tt0_fr f74 (fun _ => rfl)).trans ((tt0_fr f51 (fun _ => rfl)).trans (tt0_wr f4 (by decide)))))
                      refine wp_use (m_358_0 τ111 g112 (σ.1 117 1) (by omega) (by omega)  _ _ (by omega) (by omega)) ?_
                      rintro _ τ119 ⟨z122, rfl, h123, g120, f121, p116, p117, p118⟩
                      show WP 357 128 [(0, .ref 117), (1, iV (σ.1 117 1)), (2, iV 1), (3, iV ((σ.1 118 0) + 1))] [iV z122] _ _ _ _
                      refine wp_is1 (lv2 := [(0, .ref 117), (1, iV (σ.1 117 1)), (2, iV z122), (3, iV ((σ.1 118 0) + 1))]) jF_357_128 rfl rfl rfl (pc2 := 129) ?_
                      refine wp_al1 jF_357_129 rfl rfl (pc2 := 130) ?_
                      refine wp_ic jF_357_130 rfl (pc2 := 131) ?_
                      refine wp_cV (as := [iV 0]) (rest := []) (a := 117) (mx := 3) (ci := 12) jF_357_131 kd117 (by decide) rfl rfl rfl rfl rfl (by omega) (by omega) rfl (pc2 := 134) ?_
                      have q124 : (l1 τ119) = (l1 τ111) := (l1_fr f121 rfl (fun _ => rfl))
                      have b125 := GI.b g120 117 49 kd117 (lo := 0) (hi := 61) rfl
                      have b126 := GI.b g112 148 1 kd148 (lo := 0) (hi := 60) rfl
                      have q127 : (τ119.1 148 1) = (τ111.1 148 1) := (FR.at f121 148 1 rfl)
                      refine wp_use (m_263_0 τ119 g120  (by omega) _ _ (by omega) (by omega)) ?_
                      rintro _ τ132 ⟨rfl, g133, f134, p128, p129, p130, p131⟩
                      show WP 357 134 [(0, .ref 117), (1, iV (σ.1 117 1)), (2, iV z122), (3, iV ((σ.1 118 0) + 1))] [] _ _ _ _
                      refine wp_al1 jF_357_134 rfl rfl (pc2 := 135) ?_
                      refine wp_ic jF_357_135 rfl (pc2 := 136) ?_
                      refine wp_pi jF_357_136 kd117 (by decide) rfl rfl rfl (pc2 := 139) g133 (lo := 0) (hi := 20) rfl (by omega) (by omega) ?_
                      intro τ135 g136 f137 e138
                      refine wp_ic jF_357_139 rfl (pc2 := 140) ?_
                      refine wp_ri jF_357_140 rfl ?_
                      have q139 : (l0 τ135) = (l0 τ132) := (l0_wr f137 (by decide))
                      have q140 : (l1 τ135) = (l1 τ132) := (l1_wr f137 (by decide))
                      have q141 : (τ135.1 117 1) = 0 := ((FRw.nj f137 (by decide)).trans ((FR.at f134 117 1 rfl).trans ((FR.at f121 117 1 rfl).trans ((FR.at f113 117 1 rfl).trans ((FR.at f74 117 1 rfl).trans ((FR.at f51 117 1 rfl).trans e5))))))
                      exact ⟨1, rfl, ⟨by omega, by omega⟩, g136, (FR.w (FR.up (FR.up (FR.up (FR.up (FR.up (FR.w FR.rf f4 rfl) f51 sb_Wtr_Wrs) f74 sb_Wtr_Wrs) f113 sb_Wla_Wrs) f121 sb_Wtr_Wrs) f134 sb_Wla_Wrs) f137 rfl), (by omega), (by omega), (by omega)⟩
                    · intro h102; exfalso; omega
      · intro h29
        refine wp_ic jF_355_10 rfl (pc2 := 11) ?_
        refine wp_il1 jF_355_11 rfl rfl (pc2 := 12) ?_
        refine wp_any2 (pc2 := 13) jF_355_12 rfl rfl ?_
        intro z142 h143
        refine wp_al1 jF_355_13 rfl rfl (pc2 := 14) ?_
        refine wp_il1 jF_355_14 rfl rfl (pc2 := 15) ?_
        have b144 := GI.b hg 118 x22.toNat kd118 (lo := 0) (hi := 255) rfl
        refine wp_iald (n := 1600) (e := (σ.1 118 x22.toNat)) jF_355_15 kd118 (by decide) rfl rfl (by omega) (by omega) (FRw.na f4 (by decide)) rfl (pc2 := 16) ?_
        refine wp_any2 (pc2 := 17) jF_355_16 rfl rfl ?_
        intro z145 h146
        refine wp_si jF_355_17 (by decide) rfl (pc2 := 20) ?_
        refine wp_irema jF_355_20 (m_rgl rfl) (by omega) rfl (pc2 := 21) ?_
        intro z147 h148
        refine wp_is1 (lv2 := [(0, .ref 118), (1, iV ((σ.1 117 1) - 1)), (2, iV z147), (3, iV x22)]) jF_355_21 rfl rfl rfl (pc2 := 22) ?_
        refine wp_inc (lv2 := [(0, .ref 118), (1, iV ((σ.1 117 1) - 1)), (2, iV z147), (3, iV (x22 + 1))]) jF_355_22 rfl rfl rfl rfl (pc2 := 25) ?_
        refine wp_go jF_355_25 ?_
        exact ih28 (z147, (x22 + 1)) τ2 ⟨⟨by (try dsimp only); omega, by (try dsimp only); omega⟩, ⟨by (try dsimp only); omega, by (try dsimp only); omega⟩, rfl⟩ (by show Int.toNat (((σ.1 117 1) - 1) - (x22 + 1)) < Int.toNat (((σ.1 117 1) - 1) - x22); omega)
set_option maxHeartbeats 4000000 in
set_option maxRecDepth 20000 in
/-- java/lang/Long.bitCount -/
theorem m_96_r (σ : jM) (hg : GI σ) (v : Int64)  (fr lo : Nat) (hfr : 0 ≤ fr) (hlo : 0 ≤ lo) : WP 96 0 (lv_args 0 [.long v]) [] fr lo σ (fun v τ => ∃ z : Int, v = some (iV z) ∧ ((-2147483648) ≤ z ∧ z ≤ 2147483647) ∧ σ = τ) := by
  show WP 96 0 [(0, .long v)] [] _ _ _ _
  refine wp_ll1 jF_96_0 rfl rfl (pc2 := 1) ?_
  refine wp_ll1 jF_96_1 rfl rfl (pc2 := 2) ?_
  refine wp_ic jF_96_2 rfl (pc2 := 3) ?_
  refine wp_lng (pc2 := 4) jF_96_3 rfl rfl ?_
  intro y1
  refine wp_ld jF_96_4 rfl (pc2 := 7) ?_
  refine wp_lng (pc2 := 8) jF_96_7 rfl rfl ?_
  intro y2
  refine wp_lng (pc2 := 9) jF_96_8 rfl rfl ?_
  intro y3
  refine wp_ls1 (lv2 := [(0, .long y3)]) jF_96_9 rfl rfl rfl (pc2 := 10) ?_
  refine wp_ll1 jF_96_10 rfl rfl (pc2 := 11) ?_
  refine wp_ld jF_96_11 rfl (pc2 := 14) ?_
  refine wp_lng (pc2 := 15) jF_96_14 rfl rfl ?_
  intro y4
  refine wp_ll1 jF_96_15 rfl rfl (pc2 := 16) ?_
  refine wp_ic jF_96_16 rfl (pc2 := 17) ?_
  refine wp_lng (pc2 := 18) jF_96_17 rfl rfl ?_
  intro y5
  refine wp_ld jF_96_18 rfl (pc2 := 21) ?_
  refine wp_lng (pc2 := 22) jF_96_21 rfl rfl ?_
  intro y6
  refine wp_lng (pc2 := 23) jF_96_22 rfl rfl ?_
  intro y7
  refine wp_ls1 (lv2 := [(0, .long y7)]) jF_96_23 rfl rfl rfl (pc2 := 24) ?_
  refine wp_ll1 jF_96_24 rfl rfl (pc2 := 25) ?_
  refine wp_ll1 jF_96_25 rfl rfl (pc2 := 26) ?_
  refine wp_ic jF_96_26 rfl (pc2 := 27) ?_
  refine wp_lng (pc2 := 28) jF_96_27 rfl rfl ?_
  intro y8
  refine wp_lng (pc2 := 29) jF_96_28 rfl rfl ?_
  intro y9
  refine wp_ld jF_96_29 rfl (pc2 := 32) ?_
  refine wp_lng (pc2 := 33) jF_96_32 rfl rfl ?_
  intro y10
  refine wp_ls1 (lv2 := [(0, .long y10)]) jF_96_33 rfl rfl rfl (pc2 := 34) ?_
  refine wp_ll1 jF_96_34 rfl rfl (pc2 := 35) ?_
  refine wp_ll1 jF_96_35 rfl rfl (pc2 := 36) ?_
  refine wp_bi jF_96_36 (by decide) rfl (pc2 := 38) ?_
  refine wp_lng (pc2 := 39) jF_96_38 rfl rfl ?_
  intro y11
  refine wp_lng (pc2 := 40) jF_96_39 rfl rfl ?_
  intro y12
  refine wp_ls1 (lv2 := [(0, .long y12)]) jF_96_40 rfl rfl rfl (pc2 := 41) ?_
  refine wp_ll1 jF_96_41 rfl rfl (pc2 := 42) ?_
  refine wp_ll1 jF_96_42 rfl rfl (pc2 := 43) ?_
  refine wp_bi jF_96_43 (by decide) rfl (pc2 := 45) ?_
  refine wp_lng (pc2 := 46) jF_96_45 rfl rfl ?_
  intro y13
  refine wp_lng (pc2 := 47) jF_96_46 rfl rfl ?_
  intro y14
  refine wp_ls1 (lv2 := [(0, .long y14)]) jF_96_47 rfl rfl rfl (pc2 := 48) ?_
  refine wp_ll1 jF_96_48 rfl rfl (pc2 := 49) ?_
  refine wp_ll1 jF_96_49 rfl rfl (pc2 := 50) ?_
  refine wp_bi jF_96_50 (by decide) rfl (pc2 := 52) ?_
  refine wp_lng (pc2 := 53) jF_96_52 rfl rfl ?_
  intro y15
  refine wp_lng (pc2 := 54) jF_96_53 rfl rfl ?_
  intro y16
  refine wp_ls1 (lv2 := [(0, .long y16)]) jF_96_54 rfl rfl rfl (pc2 := 55) ?_
  refine wp_ll1 jF_96_55 rfl rfl (pc2 := 56) ?_
  refine wp_any1 (pc2 := 57) jF_96_56 rfl rfl ?_
  intro z17 h18
  refine wp_bi jF_96_57 (by decide) rfl (pc2 := 59) ?_
  refine wp_andl jF_96_59 rfl rfl (pc2 := 60) ?_
  intro z19 h20
  refine wp_ri jF_96_60 rfl ?_
  exact ⟨z19, rfl, ⟨by omega, by omega⟩, rfl⟩
set_option maxHeartbeats 4000000 in
set_option maxRecDepth 20000 in
/-- java/util/Arrays.fill -/
theorem m_31_r21 (σ : jM) (hg : GI σ)   (fr lo : Nat) (hfr : 0 ≤ fr) (hlo : 0 ≤ lo) : WP 31 0 (lv_args 0 [.ref 21, iV 0]) [] fr lo σ (fun v τ => v = none ∧ GI τ ∧ FR Wc21 σ τ) := by
  show WP 31 0 [(0, .ref 21), (1, iV 0)] [] _ _ _ _
  refine wp_ic jF_31_0 rfl (pc2 := 1) ?_
  refine wp_is1 (lv2 := [(0, .ref 21), (1, iV 0), (2, iV 0)]) jF_31_1 rfl rfl rfl (pc2 := 2) ?_
  refine wp_al1 jF_31_2 rfl rfl (pc2 := 3) ?_
  refine wp_len (n := 25) (t := 0) jF_31_3 kd21 (by decide) rfl rfl (pc2 := 4) ?_
  refine wp_is1 (lv2 := [(0, .ref 21), (1, iV 0), (2, iV 0), (3, iV 25)]) jF_31_4 rfl rfl rfl (pc2 := 5) ?_
  refine wp_loop (α := Int) (fun a => [(0, .ref 21), (1, iV 0), (2, iV (a)), (3, iV 25)]) (fun a τ => (0 ≤ a ∧ a ≤ 25) ∧ GI τ ∧ FR Wc21 σ τ) (fun a τ => Int.toNat (25 - (a))) (0) σ ?_ ?_
  · skip
    exact ⟨⟨by omega, by omega⟩, hg, FR.rf⟩
  · rintro x1 τ3 ⟨h2, g4, f5⟩ ih6
    show WP 31 5 [(0, .ref 21), (1, iV 0), (2, iV x1), (3, iV 25)] [] _ _ _ _
    show WP 31 5 [(0, .ref 21), (1, iV 0), (2, iV x1), (3, iV 25)] [] _ _ _ _
    refine wp_il1 jF_31_5 rfl rfl (pc2 := 6) ?_
    refine wp_il1 jF_31_6 rfl rfl (pc2 := 7) ?_
    refine wp_i_ge jF_31_7 (m_rgb h2 rfl) (m_rgl rfl) rfl (pc2 := 10) ?_ ?_
    · intro h7
      refine wp_rv jF_31_20 ?_
      exact ⟨rfl, g4, f5⟩
    · intro h7
      refine wp_al1 jF_31_10 rfl rfl (pc2 := 11) ?_
      refine wp_il1 jF_31_11 rfl rfl (pc2 := 12) ?_
      refine wp_il1 jF_31_12 rfl rfl (pc2 := 13) ?_
      refine wp_iast (n := 25) jF_31_13 kd21 (by decide) rfl rfl (by omega) (by omega) rfl (pc2 := 14) g4 (lo := (-2147483648)) (hi := 2147483647) rfl (by omega) (by omega) ?_
      intro τ8 g9 f10 e11
      refine wp_inc (lv2 := [(0, .ref 21), (1, iV 0), (2, iV (x1 + 1)), (3, iV 25)]) jF_31_14 rfl rfl rfl rfl (pc2 := 17) ?_
      refine wp_go jF_31_17 ?_
      exact ih6 ((x1 + 1)) τ8 ⟨⟨by omega, by omega⟩, g9, (FR.w f5 f10 rfl)⟩ (by show Int.toNat (25 - (x1 + 1)) < Int.toNat (25 - x1); omega)
set_option maxHeartbeats 4000000 in
set_option maxRecDepth 20000 in
/-- java/util/Arrays.fill -/
theorem m_31_r22 (σ : jM) (hg : GI σ)   (fr lo : Nat) (hfr : 0 ≤ fr) (hlo : 0 ≤ lo) : WP 31 0 (lv_args 0 [.ref 22, iV 0]) [] fr lo σ (fun v τ => v = none ∧ GI τ ∧ FR Wc22 σ τ) := by
  show WP 31 0 [(0, .ref 22), (1, iV 0)] [] _ _ _ _
  refine wp_ic jF_31_0 rfl (pc2 := 1) ?_
  refine wp_is1 (lv2 := [(0, .ref 22), (1, iV 0), (2, iV 0)]) jF_31_1 rfl rfl rfl (pc2 := 2) ?_
  refine wp_al1 jF_31_2 rfl rfl (pc2 := 3) ?_
  refine wp_len (n := 3) (t := 0) jF_31_3 kd22 (by decide) rfl rfl (pc2 := 4) ?_
  refine wp_is1 (lv2 := [(0, .ref 22), (1, iV 0), (2, iV 0), (3, iV 3)]) jF_31_4 rfl rfl rfl (pc2 := 5) ?_
  refine wp_loop (α := Int) (fun a => [(0, .ref 22), (1, iV 0), (2, iV (a)), (3, iV 3)]) (fun a τ => (0 ≤ a ∧ a ≤ 3) ∧ GI τ ∧ FR Wc22 σ τ) (fun a τ => Int.toNat (3 - (a))) (0) σ ?_ ?_
  · skip
    exact ⟨⟨by omega, by omega⟩, hg, FR.rf⟩
  · rintro x1 τ3 ⟨h2, g4, f5⟩ ih6
    show WP 31 5 [(0, .ref 22), (1, iV 0), (2, iV x1), (3, iV 3)] [] _ _ _ _
    show WP 31 5 [(0, .ref 22), (1, iV 0), (2, iV x1), (3, iV 3)] [] _ _ _ _
    refine wp_il1 jF_31_5 rfl rfl (pc2 := 6) ?_
    refine wp_il1 jF_31_6 rfl rfl (pc2 := 7) ?_
    refine wp_i_ge jF_31_7 (m_rgb h2 rfl) (m_rgl rfl) rfl (pc2 := 10) ?_ ?_
    · intro h7
      refine wp_rv jF_31_20 ?_
      exact ⟨rfl, g4, f5⟩
    · intro h7
      refine wp_al1 jF_31_10 rfl rfl (pc2 := 11) ?_
      refine wp_il1 jF_31_11 rfl rfl (pc2 := 12) ?_
      refine wp_il1 jF_31_12 rfl rfl (pc2 := 13) ?_
      refine wp_iast (n := 3) jF_31_13 kd22 (by decide) rfl rfl (by omega) (by omega) rfl (pc2 := 14) g4 (lo := 0) (hi := 4) rfl (by omega) (by omega) ?_
      intro τ8 g9 f10 e11
      refine wp_inc (lv2 := [(0, .ref 22), (1, iV 0), (2, iV (x1 + 1)), (3, iV 3)]) jF_31_14 rfl rfl rfl rfl (pc2 := 17) ?_
      refine wp_go jF_31_17 ?_
      exact ih6 ((x1 + 1)) τ8 ⟨⟨by omega, by omega⟩, g9, (FR.w f5 f10 rfl)⟩ (by show Int.toNat (3 - (x1 + 1)) < Int.toNat (3 - x1); omega)
set_option maxHeartbeats 4000000 in
set_option maxRecDepth 20000 in
/-- java/util/Arrays.fill -/
theorem m_31_r25 (σ : jM) (hg : GI σ)   (fr lo : Nat) (hfr : 0 ≤ fr) (hlo : 0 ≤ lo) : WP 31 0 (lv_args 0 [.ref 25, iV 0]) [] fr lo σ (fun v τ => v = none ∧ GI τ ∧ FR Wc25 σ τ) := by
  show WP 31 0 [(0, .ref 25), (1, iV 0)] [] _ _ _ _
  refine wp_ic jF_31_0 rfl (pc2 := 1) ?_
  refine wp_is1 (lv2 := [(0, .ref 25), (1, iV 0), (2, iV 0)]) jF_31_1 rfl rfl rfl (pc2 := 2) ?_
  refine wp_al1 jF_31_2 rfl rfl (pc2 := 3) ?_
  refine wp_len (n := 5) (t := 0) jF_31_3 kd25 (by decide) rfl rfl (pc2 := 4) ?_
  refine wp_is1 (lv2 := [(0, .ref 25), (1, iV 0), (2, iV 0), (3, iV 5)]) jF_31_4 rfl rfl rfl (pc2 := 5) ?_
  refine wp_loop (α := Int) (fun a => [(0, .ref 25), (1, iV 0), (2, iV (a)), (3, iV 5)]) (fun a τ => (0 ≤ a ∧ a ≤ 5) ∧ GI τ ∧ FR Wc25 σ τ) (fun a τ => Int.toNat (5 - (a))) (0) σ ?_ ?_
  · skip
    exact ⟨⟨by omega, by omega⟩, hg, FR.rf⟩
  · rintro x1 τ3 ⟨h2, g4, f5⟩ ih6
    show WP 31 5 [(0, .ref 25), (1, iV 0), (2, iV x1), (3, iV 5)] [] _ _ _ _
    show WP 31 5 [(0, .ref 25), (1, iV 0), (2, iV x1), (3, iV 5)] [] _ _ _ _
    refine wp_il1 jF_31_5 rfl rfl (pc2 := 6) ?_
    refine wp_il1 jF_31_6 rfl rfl (pc2 := 7) ?_
    refine wp_i_ge jF_31_7 (m_rgb h2 rfl) (m_rgl rfl) rfl (pc2 := 10) ?_ ?_
    · intro h7
      refine wp_rv jF_31_20 ?_
      exact ⟨rfl, g4, f5⟩
    · intro h7
      refine wp_al1 jF_31_10 rfl rfl (pc2 := 11) ?_
      refine wp_il1 jF_31_11 rfl rfl (pc2 := 12) ?_
      refine wp_il1 jF_31_12 rfl rfl (pc2 := 13) ?_
      refine wp_iast (n := 5) jF_31_13 kd25 (by decide) rfl rfl (by omega) (by omega) rfl (pc2 := 14) g4 (lo := (-2147483648)) (hi := 2147483647) rfl (by omega) (by omega) ?_
      intro τ8 g9 f10 e11
      refine wp_inc (lv2 := [(0, .ref 25), (1, iV 0), (2, iV (x1 + 1)), (3, iV 5)]) jF_31_14 rfl rfl rfl rfl (pc2 := 17) ?_
      refine wp_go jF_31_17 ?_
      exact ih6 ((x1 + 1)) τ8 ⟨⟨by omega, by omega⟩, g9, (FR.w f5 f10 rfl)⟩ (by show Int.toNat (5 - (x1 + 1)) < Int.toNat (5 - x1); omega)
set_option maxHeartbeats 4000000 in
set_option maxRecDepth 20000 in
/-- java/util/Arrays.fill -/
theorem m_32_r26 (σ : jM) (hg : GI σ) (val : Int64)  (fr lo : Nat) (hfr : 0 ≤ fr) (hlo : 0 ≤ lo) : WP 32 0 (lv_args 0 [.ref 26, .long val]) [] fr lo σ (fun v τ => v = none ∧ GI τ ∧ FR Wc26 σ τ) := by
  show WP 32 0 [(0, .ref 26), (1, .long val)] [] _ _ _ _
  refine wp_ic jF_32_0 rfl (pc2 := 1) ?_
  refine wp_is1 (lv2 := [(0, .ref 26), (1, .long val), (3, iV 0)]) jF_32_1 rfl rfl rfl (pc2 := 2) ?_
  refine wp_al1 jF_32_2 rfl rfl (pc2 := 3) ?_
  refine wp_len (n := 18) (t := 1) jF_32_3 kd26 (by decide) rfl rfl (pc2 := 4) ?_
  refine wp_is2 (lv2 := [(0, .ref 26), (1, .long val), (3, iV 0), (4, iV 18)]) jF_32_4 rfl rfl rfl (pc2 := 6) ?_
  refine wp_loop (α := Int) (fun a => [(0, .ref 26), (1, .long val), (3, iV (a)), (4, iV 18)]) (fun a τ => (0 ≤ a ∧ a ≤ 18) ∧ GI τ ∧ FR Wc26 σ τ) (fun a τ => Int.toNat (18 - (a))) (0) σ ?_ ?_
  · skip
    exact ⟨⟨by omega, by omega⟩, hg, FR.rf⟩
  · rintro x1 τ3 ⟨h2, g4, f5⟩ ih6
    show WP 32 6 [(0, .ref 26), (1, .long val), (3, iV x1), (4, iV 18)] [] _ _ _ _
    show WP 32 6 [(0, .ref 26), (1, .long val), (3, iV x1), (4, iV 18)] [] _ _ _ _
    refine wp_il1 jF_32_6 rfl rfl (pc2 := 7) ?_
    refine wp_il2 jF_32_7 rfl rfl (pc2 := 9) ?_
    refine wp_i_ge jF_32_9 (m_rgb h2 rfl) (m_rgl rfl) rfl (pc2 := 12) ?_ ?_
    · intro h7
      refine wp_rv jF_32_22 ?_
      exact ⟨rfl, g4, f5⟩
    · intro h7
      refine wp_al1 jF_32_12 rfl rfl (pc2 := 13) ?_
      refine wp_il1 jF_32_13 rfl rfl (pc2 := 14) ?_
      refine wp_ll1 jF_32_14 rfl rfl (pc2 := 15) ?_
      refine wp_last (n := 18) jF_32_15 kd26 (by decide) rfl rfl (by omega) (by omega) rfl (pc2 := 16) g4 ?_
      intro τ8 g9 f10
      refine wp_inc (lv2 := [(0, .ref 26), (1, .long val), (3, iV (x1 + 1)), (4, iV 18)]) jF_32_16 rfl rfl rfl rfl (pc2 := 19) ?_
      refine wp_go jF_32_19 ?_
      exact ih6 ((x1 + 1)) τ8 ⟨⟨by omega, by omega⟩, g9, (FR.w f5 f10 rfl)⟩ (by show Int.toNat (18 - (x1 + 1)) < Int.toNat (18 - x1); omega)
set_option maxHeartbeats 4000000 in
set_option maxRecDepth 20000 in
/-- java/util/Arrays.fill -/
theorem m_31_r46 (σ : jM) (hg : GI σ)   (fr lo : Nat) (hfr : 0 ≤ fr) (hlo : 0 ≤ lo) : WP 31 0 (lv_args 0 [.ref 46, iV 0]) [] fr lo σ (fun v τ => v = none ∧ GI τ ∧ FR Wc46 σ τ) := by
  show WP 31 0 [(0, .ref 46), (1, iV 0)] [] _ _ _ _
  refine wp_ic jF_31_0 rfl (pc2 := 1) ?_
  refine wp_is1 (lv2 := [(0, .ref 46), (1, iV 0), (2, iV 0)]) jF_31_1 rfl rfl rfl (pc2 := 2) ?_
  refine wp_al1 jF_31_2 rfl rfl (pc2 := 3) ?_
  refine wp_len (n := 25) (t := 0) jF_31_3 kd46 (by decide) rfl rfl (pc2 := 4) ?_
  refine wp_is1 (lv2 := [(0, .ref 46), (1, iV 0), (2, iV 0), (3, iV 25)]) jF_31_4 rfl rfl rfl (pc2 := 5) ?_
  refine wp_loop (α := Int) (fun a => [(0, .ref 46), (1, iV 0), (2, iV (a)), (3, iV 25)]) (fun a τ => (0 ≤ a ∧ a ≤ 25) ∧ GI τ ∧ FR Wc46 σ τ) (fun a τ => Int.toNat (25 - (a))) (0) σ ?_ ?_
  · skip
    exact ⟨⟨by omega, by omega⟩, hg, FR.rf⟩
  · rintro x1 τ3 ⟨h2, g4, f5⟩ ih6
    show WP 31 5 [(0, .ref 46), (1, iV 0), (2, iV x1), (3, iV 25)] [] _ _ _ _
    show WP 31 5 [(0, .ref 46), (1, iV 0), (2, iV x1), (3, iV 25)] [] _ _ _ _
    refine wp_il1 jF_31_5 rfl rfl (pc2 := 6) ?_
    refine wp_il1 jF_31_6 rfl rfl (pc2 := 7) ?_
    refine wp_i_ge jF_31_7 (m_rgb h2 rfl) (m_rgl rfl) rfl (pc2 := 10) ?_ ?_
    · intro h7
      refine wp_rv jF_31_20 ?_
      exact ⟨rfl, g4, f5⟩
    · intro h7
      refine wp_al1 jF_31_10 rfl rfl (pc2 := 11) ?_
      refine wp_il1 jF_31_11 rfl rfl (pc2 := 12) ?_
      refine wp_il1 jF_31_12 rfl rfl (pc2 := 13) ?_
      refine wp_iast (n := 25) jF_31_13 kd46 (by decide) rfl rfl (by omega) (by omega) rfl (pc2 := 14) g4 (lo := (-2147483648)) (hi := 2147483647) rfl (by omega) (by omega) ?_
      intro τ8 g9 f10 e11
      refine wp_inc (lv2 := [(0, .ref 46), (1, iV 0), (2, iV (x1 + 1)), (3, iV 25)]) jF_31_14 rfl rfl rfl rfl (pc2 := 17) ?_
      refine wp_go jF_31_17 ?_
      exact ih6 ((x1 + 1)) τ8 ⟨⟨by omega, by omega⟩, g9, (FR.w f5 f10 rfl)⟩ (by show Int.toNat (25 - (x1 + 1)) < Int.toNat (25 - x1); omega)
set_option maxHeartbeats 4000000 in
set_option maxRecDepth 20000 in
/-- java/util/Arrays.fill -/
theorem m_31_r47 (σ : jM) (hg : GI σ)   (fr lo : Nat) (hfr : 0 ≤ fr) (hlo : 0 ≤ lo) : WP 31 0 (lv_args 0 [.ref 47, iV 0]) [] fr lo σ (fun v τ => v = none ∧ GI τ ∧ FR Wc47 σ τ) := by
  show WP 31 0 [(0, .ref 47), (1, iV 0)] [] _ _ _ _
  refine wp_ic jF_31_0 rfl (pc2 := 1) ?_
  refine wp_is1 (lv2 := [(0, .ref 47), (1, iV 0), (2, iV 0)]) jF_31_1 rfl rfl rfl (pc2 := 2) ?_
  refine wp_al1 jF_31_2 rfl rfl (pc2 := 3) ?_
  refine wp_len (n := 3) (t := 0) jF_31_3 kd47 (by decide) rfl rfl (pc2 := 4) ?_
  refine wp_is1 (lv2 := [(0, .ref 47), (1, iV 0), (2, iV 0), (3, iV 3)]) jF_31_4 rfl rfl rfl (pc2 := 5) ?_
  refine wp_loop (α := Int) (fun a => [(0, .ref 47), (1, iV 0), (2, iV (a)), (3, iV 3)]) (fun a τ => (0 ≤ a ∧ a ≤ 3) ∧ GI τ ∧ FR Wc47 σ τ) (fun a τ => Int.toNat (3 - (a))) (0) σ ?_ ?_
  · skip
    exact ⟨⟨by omega, by omega⟩, hg, FR.rf⟩
  · rintro x1 τ3 ⟨h2, g4, f5⟩ ih6
    show WP 31 5 [(0, .ref 47), (1, iV 0), (2, iV x1), (3, iV 3)] [] _ _ _ _
    show WP 31 5 [(0, .ref 47), (1, iV 0), (2, iV x1), (3, iV 3)] [] _ _ _ _
    refine wp_il1 jF_31_5 rfl rfl (pc2 := 6) ?_
    refine wp_il1 jF_31_6 rfl rfl (pc2 := 7) ?_
    refine wp_i_ge jF_31_7 (m_rgb h2 rfl) (m_rgl rfl) rfl (pc2 := 10) ?_ ?_
    · intro h7
      refine wp_rv jF_31_20 ?_
      exact ⟨rfl, g4, f5⟩
    · intro h7
      refine wp_al1 jF_31_10 rfl rfl (pc2 := 11) ?_
      refine wp_il1 jF_31_11 rfl rfl (pc2 := 12) ?_
      refine wp_il1 jF_31_12 rfl rfl (pc2 := 13) ?_
      refine wp_iast (n := 3) jF_31_13 kd47 (by decide) rfl rfl (by omega) (by omega) rfl (pc2 := 14) g4 (lo := 0) (hi := 4) rfl (by omega) (by omega) ?_
      intro τ8 g9 f10 e11
      refine wp_inc (lv2 := [(0, .ref 47), (1, iV 0), (2, iV (x1 + 1)), (3, iV 3)]) jF_31_14 rfl rfl rfl rfl (pc2 := 17) ?_
      refine wp_go jF_31_17 ?_
      exact ih6 ((x1 + 1)) τ8 ⟨⟨by omega, by omega⟩, g9, (FR.w f5 f10 rfl)⟩ (by show Int.toNat (3 - (x1 + 1)) < Int.toNat (3 - x1); omega)
set_option maxHeartbeats 4000000 in
set_option maxRecDepth 20000 in
/-- java/util/Arrays.fill -/
theorem m_31_r50 (σ : jM) (hg : GI σ)   (fr lo : Nat) (hfr : 0 ≤ fr) (hlo : 0 ≤ lo) : WP 31 0 (lv_args 0 [.ref 50, iV 0]) [] fr lo σ (fun v τ => v = none ∧ GI τ ∧ FR Wc50 σ τ) := by
  show WP 31 0 [(0, .ref 50), (1, iV 0)] [] _ _ _ _
  refine wp_ic jF_31_0 rfl (pc2 := 1) ?_
  refine wp_is1 (lv2 := [(0, .ref 50), (1, iV 0), (2, iV 0)]) jF_31_1 rfl rfl rfl (pc2 := 2) ?_
  refine wp_al1 jF_31_2 rfl rfl (pc2 := 3) ?_
  refine wp_len (n := 5) (t := 0) jF_31_3 kd50 (by decide) rfl rfl (pc2 := 4) ?_
  refine wp_is1 (lv2 := [(0, .ref 50), (1, iV 0), (2, iV 0), (3, iV 5)]) jF_31_4 rfl rfl rfl (pc2 := 5) ?_
  refine wp_loop (α := Int) (fun a => [(0, .ref 50), (1, iV 0), (2, iV (a)), (3, iV 5)]) (fun a τ => (0 ≤ a ∧ a ≤ 5) ∧ GI τ ∧ FR Wc50 σ τ) (fun a τ => Int.toNat (5 - (a))) (0) σ ?_ ?_
  · skip
    exact ⟨⟨by omega, by omega⟩, hg, FR.rf⟩
  · rintro x1 τ3 ⟨h2, g4, f5⟩ ih6
    show WP 31 5 [(0, .ref 50), (1, iV 0), (2, iV x1), (3, iV 5)] [] _ _ _ _
    show WP 31 5 [(0, .ref 50), (1, iV 0), (2, iV x1), (3, iV 5)] [] _ _ _ _
    refine wp_il1 jF_31_5 rfl rfl (pc2 := 6) ?_
    refine wp_il1 jF_31_6 rfl rfl (pc2 := 7) ?_
    refine wp_i_ge jF_31_7 (m_rgb h2 rfl) (m_rgl rfl) rfl (pc2 := 10) ?_ ?_
    · intro h7
      refine wp_rv jF_31_20 ?_
      exact ⟨rfl, g4, f5⟩
    · intro h7
      refine wp_al1 jF_31_10 rfl rfl (pc2 := 11) ?_
      refine wp_il1 jF_31_11 rfl rfl (pc2 := 12) ?_
      refine wp_il1 jF_31_12 rfl rfl (pc2 := 13) ?_
      refine wp_iast (n := 5) jF_31_13 kd50 (by decide) rfl rfl (by omega) (by omega) rfl (pc2 := 14) g4 (lo := (-2147483648)) (hi := 2147483647) rfl (by omega) (by omega) ?_
      intro τ8 g9 f10 e11
      refine wp_inc (lv2 := [(0, .ref 50), (1, iV 0), (2, iV (x1 + 1)), (3, iV 5)]) jF_31_14 rfl rfl rfl rfl (pc2 := 17) ?_
      refine wp_go jF_31_17 ?_
      exact ih6 ((x1 + 1)) τ8 ⟨⟨by omega, by omega⟩, g9, (FR.w f5 f10 rfl)⟩ (by show Int.toNat (5 - (x1 + 1)) < Int.toNat (5 - x1); omega)
set_option maxHeartbeats 4000000 in
set_option maxRecDepth 20000 in
/-- java/util/Arrays.fill -/
theorem m_32_r51 (σ : jM) (hg : GI σ) (val : Int64)  (fr lo : Nat) (hfr : 0 ≤ fr) (hlo : 0 ≤ lo) : WP 32 0 (lv_args 0 [.ref 51, .long val]) [] fr lo σ (fun v τ => v = none ∧ GI τ ∧ FR Wc51 σ τ) := by
  show WP 32 0 [(0, .ref 51), (1, .long val)] [] _ _ _ _
  refine wp_ic jF_32_0 rfl (pc2 := 1) ?_
  refine wp_is1 (lv2 := [(0, .ref 51), (1, .long val), (3, iV 0)]) jF_32_1 rfl rfl rfl (pc2 := 2) ?_
  refine wp_al1 jF_32_2 rfl rfl (pc2 := 3) ?_
  refine wp_len (n := 18) (t := 1) jF_32_3 kd51 (by decide) rfl rfl (pc2 := 4) ?_
  refine wp_is2 (lv2 := [(0, .ref 51), (1, .long val), (3, iV 0), (4, iV 18)]) jF_32_4 rfl rfl rfl (pc2 := 6) ?_
  refine wp_loop (α := Int) (fun a => [(0, .ref 51), (1, .long val), (3, iV (a)), (4, iV 18)]) (fun a τ => (0 ≤ a ∧ a ≤ 18) ∧ GI τ ∧ FR Wc51 σ τ) (fun a τ => Int.toNat (18 - (a))) (0) σ ?_ ?_
  · skip
    exact ⟨⟨by omega, by omega⟩, hg, FR.rf⟩
  · rintro x1 τ3 ⟨h2, g4, f5⟩ ih6
    show WP 32 6 [(0, .ref 51), (1, .long val), (3, iV x1), (4, iV 18)] [] _ _ _ _
    show WP 32 6 [(0, .ref 51), (1, .long val), (3, iV x1), (4, iV 18)] [] _ _ _ _
    refine wp_il1 jF_32_6 rfl rfl (pc2 := 7) ?_
    refine wp_il2 jF_32_7 rfl rfl (pc2 := 9) ?_
    refine wp_i_ge jF_32_9 (m_rgb h2 rfl) (m_rgl rfl) rfl (pc2 := 12) ?_ ?_
    · intro h7
      refine wp_rv jF_32_22 ?_
      exact ⟨rfl, g4, f5⟩
    · intro h7
      refine wp_al1 jF_32_12 rfl rfl (pc2 := 13) ?_
      refine wp_il1 jF_32_13 rfl rfl (pc2 := 14) ?_
      refine wp_ll1 jF_32_14 rfl rfl (pc2 := 15) ?_
      refine wp_last (n := 18) jF_32_15 kd51 (by decide) rfl rfl (by omega) (by omega) rfl (pc2 := 16) g4 ?_
      intro τ8 g9 f10
      refine wp_inc (lv2 := [(0, .ref 51), (1, .long val), (3, iV (x1 + 1)), (4, iV 18)]) jF_32_16 rfl rfl rfl rfl (pc2 := 19) ?_
      refine wp_go jF_32_19 ?_
      exact ih6 ((x1 + 1)) τ8 ⟨⟨by omega, by omega⟩, g9, (FR.w f5 f10 rfl)⟩ (by show Int.toNat (18 - (x1 + 1)) < Int.toNat (18 - x1); omega)
set_option maxHeartbeats 4000000 in
set_option maxRecDepth 20000 in
/-- Told.isFull -/
theorem m_44_r27 (σ : jM) (hg : GI σ)   (fr lo : Nat) (hfr : 0 ≤ fr) (hlo : 0 ≤ lo) : WP 44 0 (lv_args 0 [.ref 27]) [] fr lo σ (fun v τ => ∃ z : Int, v = some (iV z) ∧ (0 ≤ z ∧ z ≤ 1) ∧ σ = τ ∧ (z = 0 → (σ.1 27 5) ≤ 15)) := by
  show WP 44 0 [(0, .ref 27)] [] _ _ _ _
  refine wp_al1 jF_44_0 rfl rfl (pc2 := 1) ?_
  have b1 := GI.b hg 27 5 kd27 (lo := 0) (hi := 16) rfl
  refine wp_gi jF_44_1 kd27 (by decide) rfl rfl rfl (pc2 := 4) ?_
  refine wp_al1 jF_44_4 rfl rfl (pc2 := 5) ?_
  refine wp_gr (b := 32) jF_44_5 kd27 (by decide) (c := 8) rfl rfl rfl (pc2 := 8) ?_
  refine wp_len (n := 16) (t := 1) jF_44_8 kd32 (by decide) rfl rfl (pc2 := 9) ?_
  refine wp_i_lt jF_44_9 (m_rgb b1 rfl) (m_rgl rfl) rfl (pc2 := 12) ?_ ?_
  · intro h2
    refine wp_ic jF_44_16 rfl (pc2 := 17) ?_
    refine wp_ri jF_44_17 rfl ?_
    exact ⟨0, rfl, ⟨by omega, by omega⟩, rfl, (by omega)⟩
  · intro h2
    refine wp_ic jF_44_12 rfl (pc2 := 13) ?_
    refine wp_go jF_44_13 ?_
    refine wp_ri jF_44_17 rfl ?_
    exact ⟨1, rfl, ⟨by omega, by omega⟩, rfl, (by omega)⟩
set_option maxHeartbeats 4000000 in
set_option maxRecDepth 20000 in
/-- Told.clear -/
theorem m_33_r27 (σ : jM) (hg : GI σ)   (fr lo : Nat) (hfr : 0 ≤ fr) (hlo : 0 ≤ lo) : WP 33 0 (lv_args 0 [.ref 27]) [] fr lo σ (fun v τ => v = none ∧ GI τ ∧ FR WT27 σ τ ∧ ((τ.1 27 5) = 0)) := by
  show WP 33 0 [(0, .ref 27)] [] _ _ _ _
  refine wp_al1 jF_33_0 rfl rfl (pc2 := 1) ?_
  refine wp_ic jF_33_1 rfl (pc2 := 2) ?_
  refine wp_pi jF_33_2 kd27 (by decide) rfl rfl rfl (pc2 := 5) hg (lo := 0) (hi := 16) rfl (by omega) (by omega) ?_
  intro τ1 g2 f3 e4
  refine wp_al1 jF_33_5 rfl rfl (pc2 := 6) ?_
  refine wp_lc jF_33_6 rfl (pc2 := 7) ?_
  refine wp_pl jF_33_7 kd27 (by decide) rfl rfl (pc2 := 10) g2 ?_
  intro τ5 g6 f7
  refine wp_al1 jF_33_10 rfl rfl (pc2 := 11) ?_
  refine wp_lc jF_33_11 rfl (pc2 := 12) ?_
  refine wp_pl jF_33_12 kd27 (by decide) rfl rfl (pc2 := 15) g6 ?_
  intro τ8 g9 f10
  refine wp_rv jF_33_15 ?_
  have q11 : (τ8.1 27 5) = 0 := ((FRw.nj f10 (by decide)).trans ((FRw.nj f7 (by decide)).trans e4))
  exact ⟨rfl, g9, (FR.w (FR.w (FR.w FR.rf f3 rfl) f7 rfl) f10 rfl), (by omega)⟩
set_option maxHeartbeats 4000000 in
set_option maxRecDepth 20000 in
/-- Told.setParty -/
theorem m_59_r27 (σ : jM) (hg : GI σ) (pt : Int) (hl_pt : (-2147483648) ≤ pt) (hu_pt : pt ≤ 2147483647)  (fr lo : Nat) (hfr : 1 ≤ fr) (hlo : 20 ≤ lo) : WP 59 0 (lv_args 0 [.ref 27, iV pt]) [] fr lo σ (fun v τ => v = none ∧ GI τ ∧ FR WT27 σ τ ∧ ((τ.1 27 5) = (σ.1 27 5))) := by
  show WP 59 0 [(0, .ref 27), (1, iV pt)] [] _ _ _ _
  refine wp_al1 jF_59_0 rfl rfl (pc2 := 1) ?_
  refine wp_cV (as := []) (rest := []) (a := 27) (mx := 1) (ci := 7) jF_59_1 kd27 (by decide) rfl rfl rfl rfl rfl (by omega) (by omega) rfl (pc2 := 4) ?_
  have b1 := GI.b hg 27 5 kd27 (lo := 0) (hi := 16) rfl
  refine wp_use (m_44_r27 σ hg   _ _ (by omega) (by omega)) ?_
  rintro _ _ ⟨z5, rfl, h6, rfl, p2⟩
  show WP 59 4 [(0, .ref 27), (1, iV pt)] [iV z5] _ _ _ _
  refine wp_z_ne jF_59_4 (m_rgb h6 rfl) rfl (pc2 := 7) ?_ ?_
  · intro h7
    clear p2
    refine wp_rv jF_59_17 ?_
    exact ⟨rfl, hg, FR.rf, (by omega)⟩
  · intro h7
    replace p2 := p2 (by omega)
    refine wp_al1 jF_59_7 rfl rfl (pc2 := 8) ?_
    refine wp_gr (b := 30) jF_59_8 kd27 (by decide) (c := 6) rfl rfl rfl (pc2 := 11) ?_
    refine wp_al1 jF_59_11 rfl rfl (pc2 := 12) ?_
    refine wp_gi jF_59_12 kd27 (by decide) rfl rfl rfl (pc2 := 15) ?_
    refine wp_il1 jF_59_15 rfl rfl (pc2 := 16) ?_
    refine wp_iast (n := 16) jF_59_16 kd30 (by decide) rfl rfl (by omega) (by omega) rfl (pc2 := 17) hg (lo := (-2147483648)) (hi := 2147483647) rfl (by omega) (by omega) ?_
    intro τ8 g9 f10 e11
    refine wp_rv jF_59_17 ?_
    have q12 : (τ8.1 27 5) = (σ.1 27 5) := (FRw.na f10 (by decide))
    exact ⟨rfl, g9, (FR.w FR.rf f10 rfl), (by omega)⟩
set_option maxHeartbeats 4000000 in
set_option maxRecDepth 20000 in
/-- Told.setHow -/
theorem m_61_r27 (σ : jM) (hg : GI σ) (fb : Int) (hl_fb : 0 ≤ fb) (hu_fb : fb ≤ 1)  (fr lo : Nat) (hfr : 1 ≤ fr) (hlo : 20 ≤ lo) : WP 61 0 (lv_args 0 [.ref 27, iV fb]) [] fr lo σ (fun v τ => v = none ∧ GI τ ∧ FR WT27 σ τ ∧ ((τ.1 27 5) = (σ.1 27 5))) := by
  show WP 61 0 [(0, .ref 27), (1, iV fb)] [] _ _ _ _
  refine wp_al1 jF_61_0 rfl rfl (pc2 := 1) ?_
  refine wp_cV (as := []) (rest := []) (a := 27) (mx := 1) (ci := 7) jF_61_1 kd27 (by decide) rfl rfl rfl rfl rfl (by omega) (by omega) rfl (pc2 := 4) ?_
  have b1 := GI.b hg 27 5 kd27 (lo := 0) (hi := 16) rfl
  refine wp_use (m_44_r27 σ hg   _ _ (by omega) (by omega)) ?_
  rintro _ _ ⟨z5, rfl, h6, rfl, p2⟩
  show WP 61 4 [(0, .ref 27), (1, iV fb)] [iV z5] _ _ _ _
  refine wp_z_ne jF_61_4 (m_rgb h6 rfl) rfl (pc2 := 7) ?_ ?_
  · intro h7
    clear p2
    refine wp_rv jF_61_17 ?_
    exact ⟨rfl, hg, FR.rf, (by omega)⟩
  · intro h7
    replace p2 := p2 (by omega)
    refine wp_al1 jF_61_7 rfl rfl (pc2 := 8) ?_
    refine wp_gr (b := 28) jF_61_8 kd27 (by decide) (c := 4) rfl rfl rfl (pc2 := 11) ?_
    refine wp_al1 jF_61_11 rfl rfl (pc2 := 12) ?_
    refine wp_gi jF_61_12 kd27 (by decide) rfl rfl rfl (pc2 := 15) ?_
    refine wp_il1 jF_61_15 rfl rfl (pc2 := 16) ?_
    refine wp_bast (n := 16) jF_61_16 kd28 (by decide) rfl rfl (by omega) (by omega) rfl (pc2 := 17) hg (lo := 0) (hi := 1) rfl (by omega) (by omega) (by decide) (by decide) ?_
    intro τ8 g9 f10 e11
    refine wp_rv jF_61_17 ?_
    have q12 : (τ8.1 27 5) = (σ.1 27 5) := (FRw.na f10 (by decide))
    exact ⟨rfl, g9, (FR.w FR.rf f10 rfl), (by omega)⟩
set_option maxHeartbeats 4000000 in
set_option maxRecDepth 20000 in
/-- Told.setOne -/
theorem m_63_r27 (σ : jM) (hg : GI σ) (sort : Int) (hl_sort : 0 ≤ sort) (hu_sort : sort ≤ 2) (wd : Int) (hl_wd : (-2147483648) ≤ wd) (hu_wd : wd ≤ 2147483647)  (fr lo : Nat) (hfr : 0 ≤ fr) (hlo : 0 ≤ lo) : WP 63 0 (lv_args 0 [.ref 27, iV sort, iV wd]) [] fr lo σ (fun v τ => v = none ∧ GI τ ∧ FR WT27 σ τ ∧ ((τ.1 27 5) = (σ.1 27 5))) := by
  show WP 63 0 [(0, .ref 27), (1, iV sort), (2, iV wd)] [] _ _ _ _
  refine wp_al1 jF_63_0 rfl rfl (pc2 := 1) ?_
  have b1 := GI.b hg 27 5 kd27 (lo := 0) (hi := 16) rfl
  refine wp_gi jF_63_1 kd27 (by decide) rfl rfl rfl (pc2 := 4) ?_
  refine wp_ic jF_63_4 rfl (pc2 := 5) ?_
  refine wp_mul jF_63_5 rfl (pc2 := 6) ?_
  refine wp_il1 jF_63_6 rfl rfl (pc2 := 7) ?_
  refine wp_add jF_63_7 rfl (pc2 := 8) ?_
  refine wp_is1 (lv2 := [(0, .ref 27), (1, iV sort), (2, iV wd), (3, iV (((σ.1 27 5) * 3) + sort))]) jF_63_8 rfl rfl rfl (pc2 := 9) ?_
  refine wp_il1 jF_63_9 rfl rfl (pc2 := 10) ?_
  refine wp_z_lt jF_63_10 ⟨by omega, by omega⟩ rfl (pc2 := 13) ?_ ?_
  · intro h2; exfalso; omega
  · intro h2
    refine wp_il1 jF_63_13 rfl rfl (pc2 := 14) ?_
    refine wp_al1 jF_63_14 rfl rfl (pc2 := 15) ?_
    refine wp_gr (b := 29) jF_63_15 kd27 (by decide) (c := 5) rfl rfl rfl (pc2 := 18) ?_
    refine wp_len (n := 48) (t := 0) jF_63_18 kd29 (by decide) rfl rfl (pc2 := 19) ?_
    refine wp_i_ge jF_63_19 ⟨by omega, by omega⟩ (m_rgl rfl) rfl (pc2 := 22) ?_ ?_
    · intro h3
      refine wp_rv jF_63_29 ?_
      exact ⟨rfl, hg, FR.rf, (by omega)⟩
    · intro h3
      refine wp_al1 jF_63_22 rfl rfl (pc2 := 23) ?_
      refine wp_gr (b := 29) jF_63_23 kd27 (by decide) (c := 5) rfl rfl rfl (pc2 := 26) ?_
      refine wp_il1 jF_63_26 rfl rfl (pc2 := 27) ?_
      refine wp_il1 jF_63_27 rfl rfl (pc2 := 28) ?_
      refine wp_iast (n := 48) jF_63_28 kd29 (by decide) rfl rfl (by omega) (by omega) rfl (pc2 := 29) hg (lo := (-2147483648)) (hi := 2147483647) rfl (by omega) (by omega) ?_
      intro τ4 g5 f6 e7
      refine wp_rv jF_63_29 ?_
      have q8 : (τ4.1 27 5) = (σ.1 27 5) := (FRw.na f6 (by decide))
      exact ⟨rfl, g5, (FR.w FR.rf f6 rfl), (by omega)⟩
set_option maxHeartbeats 4000000 in
set_option maxRecDepth 20000 in
/-- Told.close -/
theorem m_65_r27 (σ : jM) (hg : GI σ) (pc_ : Int) (hl_pc_ : (-2147483648) ≤ pc_) (hu_pc_ : pc_ ≤ 2147483647) (pre0 : (σ.1 27 5) ≤ 16) (fr lo : Nat) (hfr : 1 ≤ fr) (hlo : 20 ≤ lo) : WP 65 0 (lv_args 0 [.ref 27, iV pc_]) [] fr lo σ (fun v τ => ∃ z : Int, v = some (iV z) ∧ (0 ≤ z ∧ z ≤ 1) ∧ GI τ ∧ FR WT27 σ τ ∧ ((τ.1 27 5) ≤ 16)) := by
  show WP 65 0 [(0, .ref 27), (1, iV pc_)] [] _ _ _ _
  refine wp_al1 jF_65_0 rfl rfl (pc2 := 1) ?_
  refine wp_cV (as := []) (rest := []) (a := 27) (mx := 1) (ci := 7) jF_65_1 kd27 (by decide) rfl rfl rfl rfl rfl (by omega) (by omega) rfl (pc2 := 4) ?_
  have b1 := GI.b hg 27 5 kd27 (lo := 0) (hi := 16) rfl
  refine wp_use (m_44_r27 σ hg   _ _ (by omega) (by omega)) ?_
  rintro _ _ ⟨z5, rfl, h6, rfl, p2⟩
  show WP 65 4 [(0, .ref 27), (1, iV pc_)] [iV z5] _ _ _ _
  refine wp_z_eq jF_65_4 (m_rgb h6 rfl) rfl (pc2 := 7) ?_ ?_
  · intro h7
    replace p2 := p2 (by omega)
    refine wp_al1 jF_65_9 rfl rfl (pc2 := 10) ?_
    refine wp_gr (b := 31) jF_65_10 kd27 (by decide) (c := 7) rfl rfl rfl (pc2 := 13) ?_
    refine wp_al1 jF_65_13 rfl rfl (pc2 := 14) ?_
    refine wp_gi jF_65_14 kd27 (by decide) rfl rfl rfl (pc2 := 17) ?_
    refine wp_il1 jF_65_17 rfl rfl (pc2 := 18) ?_
    refine wp_iast (n := 16) jF_65_18 kd31 (by decide) rfl rfl (by omega) (by omega) rfl (pc2 := 19) hg (lo := (-2147483648)) (hi := 2147483647) rfl (by omega) (by omega) ?_
    intro τ8 g9 f10 e11
    refine wp_al1 jF_65_19 rfl rfl (pc2 := 20) ?_
    refine wp_dup jF_65_20 rfl rfl (pc2 := 21) ?_
    refine wp_gi jF_65_21 kd27 (by decide) rfl (FRw.na f10 (by decide)) rfl (pc2 := 24) ?_
    refine wp_ic jF_65_24 rfl (pc2 := 25) ?_
    refine wp_add jF_65_25 rfl (pc2 := 26) ?_
    refine wp_pi jF_65_26 kd27 (by decide) rfl rfl rfl (pc2 := 29) g9 (lo := 0) (hi := 16) rfl (by omega) (by omega) ?_
    intro τ12 g13 f14 e15
    refine wp_ic jF_65_29 rfl (pc2 := 30) ?_
    refine wp_ri jF_65_30 rfl ?_
    have q16 : (τ12.1 27 5) = ((σ.1 27 5) + 1) := e15
    exact ⟨1, rfl, ⟨by omega, by omega⟩, g13, (FR.w (FR.w FR.rf f10 rfl) f14 rfl), (by omega)⟩
  · intro h7
    clear p2
    refine wp_ic jF_65_7 rfl (pc2 := 8) ?_
    refine wp_ri jF_65_8 rfl ?_
    exact ⟨0, rfl, ⟨by omega, by omega⟩, hg, FR.rf, (by omega)⟩
