set_option maxHeartbeats 4000000 in
set_option maxRecDepth 20000 in
/-- Tape.look -/
theorem m_35_r10_c (σ : jM) (hg : GI σ)   (fr lo : Nat) (hfr : 0 ≤ fr) (hlo : 0 ≤ lo) : WP 35 0 (lv_args 0 [.ref 10]) [] fr lo σ (fun v τ => ∃ z : Int, v = some (iV z) ∧ ((-1) ≤ z ∧ z ≤ 255) ∧ GI τ ∧ FR Wtp σ τ ∧ (0 ≤ z → ((τ.1 10 2) < (σ.1 10 1) ∧ (τ.1 10 2) ≤ 1599)) ∧ ((cb σ) = 1 → (τ.1 10 2) = (σ.1 10 2)) ∧ (0 ≤ z → (cb τ) = 1)) := by
  show WP 35 0 [(0, .ref 10)] [] _ _ _ _
  have b1 := GI.b hg 10 2 kd10 (lo := 0) (hi := 1600) rfl
  refine wp_loop (α := Unit) (fun a => [(0, .ref 10)]) (fun a τ => GI τ ∧ FR Wtp σ τ ∧ ((cb σ) = 1 → (τ.1 10 2) = (σ.1 10 2))) (fun a τ => Int.toNat (1700 - (τ.1 10 2))) () σ ?_ ?_
  · skip
    exact ⟨hg, FR.rf, (fun _ => rfl)⟩
  · rintro ⟨⟩ τ2 ⟨g3, f4, p5⟩ ih6
    have b7 := GI.b g3 10 2 kd10 (lo := 0) (hi := 1600) rfl
    show WP 35 0 [(0, .ref 10)] [] _ _ _ _
    show WP 35 0 [(0, .ref 10)] [] _ _ _ _
    refine wp_al1 jF_35_0 rfl rfl (pc2 := 1) ?_
    refine wp_gi jF_35_1 kd10 (by decide) rfl rfl rfl (pc2 := 4) ?_
    refine wp_al1 jF_35_4 rfl rfl (pc2 := 5) ?_
    have b8 := GI.b hg 10 1 kd10 (lo := 0) (hi := 1600) rfl
    refine wp_gi jF_35_5 kd10 (by decide) rfl (FR.at f4 10 1 rfl) rfl (pc2 := 8) ?_
    refine wp_i_ge jF_35_8 (m_rgb b7 rfl) (m_rgb b8 rfl) rfl (pc2 := 11) ?_ ?_
    · intro h9
      refine wp_al1 jF_35_52 rfl rfl (pc2 := 53) ?_
      refine wp_gi jF_35_53 kd10 (by decide) rfl rfl rfl (pc2 := 56) ?_
      refine wp_al1 jF_35_56 rfl rfl (pc2 := 57) ?_
      refine wp_gi jF_35_57 kd10 (by decide) rfl (FR.at f4 10 1 rfl) rfl (pc2 := 60) ?_
      refine wp_i_ge jF_35_60 (m_rgb b7 rfl) (m_rgb b8 rfl) rfl (pc2 := 63) ?_ ?_
      · intro h10
        refine wp_ic jF_35_75 rfl (pc2 := 76) ?_
        refine wp_ri jF_35_76 rfl ?_
        exact ⟨(-1), rfl, ⟨by omega, by omega⟩, g3, f4, (by omega), p5, (by omega)⟩
      · intro h10
        refine wp_al1 jF_35_63 rfl rfl (pc2 := 64) ?_
        refine wp_gr (b := 11) jF_35_64 kd10 (by decide) (c := 111) rfl rfl rfl (pc2 := 67) ?_
        refine wp_al1 jF_35_67 rfl rfl (pc2 := 68) ?_
        refine wp_gi jF_35_68 kd10 (by decide) rfl rfl rfl (pc2 := 71) ?_
        have b11 := GI.b hg 11 (τ2.1 10 2).toNat kd11 (lo := 0) (hi := 255) rfl
        refine wp_iald (n := 1600) (e := (σ.1 11 (τ2.1 10 2).toNat)) jF_35_71 kd11 (by decide) rfl rfl (by omega) (by omega) (FR.at f4 11 (τ2.1 10 2).toNat rfl) rfl (pc2 := 72) ?_
        refine wp_go jF_35_72 ?_
        refine wp_ri jF_35_76 rfl ?_
        exact ⟨(σ.1 11 (τ2.1 10 2).toNat), rfl, ⟨by omega, by omega⟩, g3, f4, (by omega), p5, (fun _ => cb_1 (by rw [f4.at 10 1 rfl]; omega) (by rw [f4.at 11 _ rfl]; omega) (by rw [f4.at 11 _ rfl]; omega))⟩
    · intro h9
      refine wp_al1 jF_35_11 rfl rfl (pc2 := 12) ?_
      refine wp_gr (b := 11) jF_35_12 kd10 (by decide) (c := 111) rfl rfl rfl (pc2 := 15) ?_
      refine wp_al1 jF_35_15 rfl rfl (pc2 := 16) ?_
      refine wp_gi jF_35_16 kd10 (by decide) rfl rfl rfl (pc2 := 19) ?_
      have b12 := GI.b hg 11 (τ2.1 10 2).toNat kd11 (lo := 0) (hi := 255) rfl
      refine wp_iald (n := 1600) (e := (σ.1 11 (τ2.1 10 2).toNat)) jF_35_19 kd11 (by decide) rfl rfl (by omega) (by omega) (FR.at f4 11 (τ2.1 10 2).toNat rfl) rfl (pc2 := 20) ?_
      refine wp_bi jF_35_20 (by decide) rfl (pc2 := 22) ?_
      refine wp_i_eq jF_35_22 (m_rgb b12 rfl) (m_rgl rfl) rfl (pc2 := 25) ?_ ?_
      · intro h13
        refine wp_al1 jF_35_39 rfl rfl (pc2 := 40) ?_
        refine wp_dup jF_35_40 rfl rfl (pc2 := 41) ?_
        refine wp_gi jF_35_41 kd10 (by decide) rfl rfl rfl (pc2 := 44) ?_
        refine wp_ic jF_35_44 rfl (pc2 := 45) ?_
        refine wp_add jF_35_45 rfl (pc2 := 46) ?_
        refine wp_pi jF_35_46 kd10 (by decide) rfl rfl rfl (pc2 := 49) g3 (lo := 0) (hi := 1600) rfl (by omega) (by omega) ?_
        intro τ14 g15 f16 e17
        refine wp_go jF_35_49 ?_
        have q18 : (τ14.1 10 2) = ((τ2.1 10 2) + 1) := e17
        exact ih6 () τ14 ⟨g15, (FR.w f4 f16 rfl), (fun hc => by have e := p5 hc; have o := cb_o hc; rw [← e] at o; exfalso; omega)⟩ (by show Int.toNat (1700 - (τ14.1 10 2)) < Int.toNat (1700 - (τ2.1 10 2)); omega)
      · intro h13
        refine wp_al1 jF_35_25 rfl rfl (pc2 := 26) ?_
        refine wp_gr (b := 11) jF_35_26 kd10 (by decide) (c := 111) rfl rfl rfl (pc2 := 29) ?_
        refine wp_al1 jF_35_29 rfl rfl (pc2 := 30) ?_
        refine wp_gi jF_35_30 kd10 (by decide) rfl rfl rfl (pc2 := 33) ?_
        refine wp_iald (n := 1600) (e := (σ.1 11 (τ2.1 10 2).toNat)) jF_35_33 kd11 (by decide) rfl rfl (by omega) (by omega) (FR.at f4 11 (τ2.1 10 2).toNat rfl) rfl (pc2 := 34) ?_
        refine wp_bi jF_35_34 (by decide) rfl (pc2 := 36) ?_
        refine wp_i_ne jF_35_36 (m_rgb b12 rfl) (m_rgl rfl) rfl (pc2 := 39) ?_ ?_
        · intro h19
          refine wp_al1 jF_35_52 rfl rfl (pc2 := 53) ?_
          refine wp_gi jF_35_53 kd10 (by decide) rfl rfl rfl (pc2 := 56) ?_
          refine wp_al1 jF_35_56 rfl rfl (pc2 := 57) ?_
          refine wp_gi jF_35_57 kd10 (by decide) rfl (FR.at f4 10 1 rfl) rfl (pc2 := 60) ?_
          refine wp_i_ge jF_35_60 (m_rgb b7 rfl) (m_rgb b8 rfl) rfl (pc2 := 63) ?_ ?_
          · intro h20
            refine wp_ic jF_35_75 rfl (pc2 := 76) ?_
            refine wp_ri jF_35_76 rfl ?_
            exact ⟨(-1), rfl, ⟨by omega, by omega⟩, g3, f4, (by omega), p5, (by omega)⟩
          · intro h20
            refine wp_al1 jF_35_63 rfl rfl (pc2 := 64) ?_
            refine wp_gr (b := 11) jF_35_64 kd10 (by decide) (c := 111) rfl rfl rfl (pc2 := 67) ?_
            refine wp_al1 jF_35_67 rfl rfl (pc2 := 68) ?_
            refine wp_gi jF_35_68 kd10 (by decide) rfl rfl rfl (pc2 := 71) ?_
            refine wp_iald (n := 1600) (e := (σ.1 11 (τ2.1 10 2).toNat)) jF_35_71 kd11 (by decide) rfl rfl (by omega) (by omega) (FR.at f4 11 (τ2.1 10 2).toNat rfl) rfl (pc2 := 72) ?_
            refine wp_go jF_35_72 ?_
            refine wp_ri jF_35_76 rfl ?_
            exact ⟨(σ.1 11 (τ2.1 10 2).toNat), rfl, ⟨by omega, by omega⟩, g3, f4, (by omega), p5, (fun _ => cb_1 (by rw [f4.at 10 1 rfl]; omega) (by rw [f4.at 11 _ rfl]; omega) (by rw [f4.at 11 _ rfl]; omega))⟩
        · intro h19
          refine wp_al1 jF_35_39 rfl rfl (pc2 := 40) ?_
          refine wp_dup jF_35_40 rfl rfl (pc2 := 41) ?_
          refine wp_gi jF_35_41 kd10 (by decide) rfl rfl rfl (pc2 := 44) ?_
          refine wp_ic jF_35_44 rfl (pc2 := 45) ?_
          refine wp_add jF_35_45 rfl (pc2 := 46) ?_
          refine wp_pi jF_35_46 kd10 (by decide) rfl rfl rfl (pc2 := 49) g3 (lo := 0) (hi := 1600) rfl (by omega) (by omega) ?_
          intro τ21 g22 f23 e24
          refine wp_go jF_35_49 ?_
          have q25 : (τ21.1 10 2) = ((τ2.1 10 2) + 1) := e24
          exact ih6 () τ21 ⟨g22, (FR.w f4 f23 rfl), (fun hc => by have e := p5 hc; have o := cb_o hc; rw [← e] at o; exfalso; omega)⟩ (by show Int.toNat (1700 - (τ21.1 10 2)) < Int.toNat (1700 - (τ2.1 10 2)); omega)
set_option maxHeartbeats 4000000 in
set_option maxRecDepth 20000 in
/-- Tape.seesWord -/
theorem m_37_r10_c (σ : jM) (hg : GI σ)   (fr lo : Nat) (hfr : 1 ≤ fr) (hlo : 21 ≤ lo) : WP 37 0 (lv_args 0 [.ref 10]) [] fr lo σ (fun v τ => ∃ z : Int, v = some (iV z) ∧ (0 ≤ z ∧ z ≤ 1) ∧ GI τ ∧ FR Wtp σ τ ∧ (z = 1 → (τ.1 10 5) + (τ.1 10 6) ≤ (σ.1 10 1)) ∧ ((cb σ) = 1 → (τ.1 10 2) = (σ.1 10 2))) := by
  show WP 37 0 [(0, .ref 10)] [] _ _ _ _
  refine wp_al1 jF_37_0 rfl rfl (pc2 := 1) ?_
  refine wp_cV (as := []) (rest := []) (a := 10) (mx := 1) (ci := 6) jF_37_1 kd10 (by decide) rfl rfl rfl rfl rfl (by omega) (by omega) rfl (pc2 := 4) ?_
  have b1 := GI.b hg 10 1 kd10 (lo := 0) (hi := 1600) rfl
  have b2 := GI.b hg 10 2 kd10 (lo := 0) (hi := 1600) rfl
  refine wp_use (m_35_r10_c σ hg   _ _ (by omega) (by omega)) ?_
  rintro _ τ6 ⟨z9, rfl, h10, g7, f8, p3, p4, p5⟩
  show WP 37 4 [(0, .ref 10)] [iV z9] _ _ _ _
  refine wp_cS (as := [iV z9]) (rest := []) (mx := 1) jF_37_4 rfl rfl rfl rfl (by omega) (by omega) rfl (pc2 := 7) ?_
  show WP 38 0 [(0, iV z9)] [] _ _ _ _
  refine wp_il1 jF_38_0 rfl rfl (pc2 := 1) ?_
  refine wp_bi jF_38_1 (by decide) rfl (pc2 := 3) ?_
  refine wp_i_lt jF_38_3 (m_rgb h10 rfl) (m_rgl rfl) rfl (pc2 := 6) ?_ ?_
  · intro h11
    refine wp_ic jF_38_16 rfl (pc2 := 17) ?_
    refine wp_ri jF_38_17 rfl ?_
    show WP 37 7 [(0, .ref 10)] [iV 0] _ _ _ _
    refine wp_z_eq jF_37_7 (m_rgl rfl) rfl (pc2 := 10) ?_ ?_
    · intro h12
      refine wp_ic jF_37_26 rfl (pc2 := 27) ?_
      refine wp_ri jF_37_27 rfl ?_
      have b13 := GI.b g7 10 2 kd10 (lo := 0) (hi := 1600) rfl
      have b14 := GI.b g7 10 5 kd10 (lo := 0) (hi := 1600) rfl
      have b15 := GI.b g7 10 6 kd10 (lo := 0) (hi := 1600) rfl
      exact ⟨0, rfl, ⟨by omega, by omega⟩, g7, f8, (by omega), (by omega)⟩
    · intro h12; exfalso; omega
  · intro h11
    replace p3 := p3 (by omega)
    replace p5 := p5 (by omega)
    refine wp_il1 jF_38_6 rfl rfl (pc2 := 7) ?_
    refine wp_bi jF_38_7 (by decide) rfl (pc2 := 9) ?_
    refine wp_i_gt jF_38_9 ⟨by omega, by omega⟩ (m_rgl rfl) rfl (pc2 := 12) ?_ ?_
    · intro h16
      refine wp_ic jF_38_16 rfl (pc2 := 17) ?_
      refine wp_ri jF_38_17 rfl ?_
      show WP 37 7 [(0, .ref 10)] [iV 0] _ _ _ _
      refine wp_z_eq jF_37_7 (m_rgl rfl) rfl (pc2 := 10) ?_ ?_
      · intro h17
        refine wp_ic jF_37_26 rfl (pc2 := 27) ?_
        refine wp_ri jF_37_27 rfl ?_
        have b18 := GI.b g7 10 2 kd10 (lo := 0) (hi := 1600) rfl
        have b19 := GI.b g7 10 5 kd10 (lo := 0) (hi := 1600) rfl
        have b20 := GI.b g7 10 6 kd10 (lo := 0) (hi := 1600) rfl
        exact ⟨0, rfl, ⟨by omega, by omega⟩, g7, f8, (by omega), (by omega)⟩
      · intro h17; exfalso; omega
    · intro h16
      refine wp_ic jF_38_12 rfl (pc2 := 13) ?_
      refine wp_go jF_38_13 ?_
      refine wp_ri jF_38_17 rfl ?_
      show WP 37 7 [(0, .ref 10)] [iV 1] _ _ _ _
      refine wp_z_eq jF_37_7 (m_rgl rfl) rfl (pc2 := 10) ?_ ?_
      · intro h21; exfalso; omega
      · intro h21
        refine wp_al1 jF_37_10 rfl rfl (pc2 := 11) ?_
        refine wp_al1 jF_37_11 rfl rfl (pc2 := 12) ?_
        have b22 := GI.b g7 10 2 kd10 (lo := 0) (hi := 1600) rfl
        refine wp_gi jF_37_12 kd10 (by decide) rfl rfl rfl (pc2 := 15) ?_
        refine wp_ic jF_37_15 rfl (pc2 := 16) ?_
        refine wp_sub jF_37_16 rfl (pc2 := 17) ?_
        refine wp_cV (as := [iV ((τ6.1 10 2) - 1)]) (rest := []) (a := 10) (mx := 2) (ci := 6) jF_37_17 kd10 (by decide) rfl rfl rfl rfl rfl (by omega) (by omega) rfl (pc2 := 20) ?_
        have q23 : (τ6.1 10 1) = (σ.1 10 1) := (FR.at f8 10 1 rfl)
        refine wp_use (m_39_r10 τ6 g7 ((τ6.1 10 2) - 1) (by omega) (by omega)  _ _ (by omega) (by omega)) ?_
        rintro _ _ ⟨z28, rfl, h29, rfl, p24, p25⟩
        show WP 37 20 [(0, .ref 10)] [iV z28] _ _ _ _
        refine wp_cS (as := [iV z28]) (rest := []) (mx := 1) jF_37_20 rfl rfl rfl rfl (by omega) (by omega) rfl (pc2 := 23) ?_
        show WP 40 0 [(0, iV z28)] [] _ _ _ _
        refine wp_il1 jF_40_0 rfl rfl (pc2 := 1) ?_
        refine wp_bi jF_40_1 (by decide) rfl (pc2 := 3) ?_
        refine wp_i_lt jF_40_3 (m_rgb h29 rfl) (m_rgl rfl) rfl (pc2 := 6) ?_ ?_
        · intro h30
          refine wp_ic jF_40_16 rfl (pc2 := 17) ?_
          refine wp_ri jF_40_17 rfl ?_
          show WP 37 23 [(0, .ref 10)] [iV 0] _ _ _ _
          refine wp_z_eq jF_37_23 (m_rgl rfl) rfl (pc2 := 26) ?_ ?_
          · intro h31
            refine wp_al1 jF_37_28 rfl rfl (pc2 := 29) ?_
            refine wp_al1 jF_37_29 rfl rfl (pc2 := 30) ?_
            refine wp_gi jF_37_30 kd10 (by decide) rfl rfl rfl (pc2 := 33) ?_
            refine wp_pi jF_37_33 kd10 (by decide) rfl rfl rfl (pc2 := 36) g7 (lo := 0) (hi := 1600) rfl (by omega) (by omega) ?_
            intro τ32 g33 f34 e35
            refine wp_al1 jF_37_36 rfl rfl (pc2 := 37) ?_
            refine wp_ic jF_37_37 rfl (pc2 := 38) ?_
            refine wp_pi jF_37_38 kd10 (by decide) rfl rfl rfl (pc2 := 41) g33 (lo := 0) (hi := 1600) rfl (by omega) (by omega) ?_
            intro τ36 g37 f38 e39
            refine wp_al1 jF_37_41 rfl rfl (pc2 := 42) ?_
            refine wp_ic jF_37_42 rfl (pc2 := 43) ?_
            refine wp_pi jF_37_43 kd10 (by decide) rfl rfl rfl (pc2 := 46) g37 (lo := (-2147483648)) (hi := 2147483647) rfl (by omega) (by omega) ?_
            intro τ40 g41 f42 e43
            refine wp_al1 jF_37_46 rfl rfl (pc2 := 47) ?_
            refine wp_gi jF_37_47 kd10 (by decide) rfl ((FRw.nj f42 (by decide)).trans ((FRw.nj f38 (by decide)).trans (FRw.nj f34 (by decide)))) rfl (pc2 := 50) ?_
            refine wp_is1 (lv2 := [(0, .ref 10), (1, iV (τ6.1 10 2))]) jF_37_50 rfl rfl rfl (pc2 := 51) ?_
            have q44 : (τ40.1 10 1) = (σ.1 10 1) := ((FRw.nj f42 (by decide)).trans ((FRw.nj f38 (by decide)).trans ((FRw.nj f34 (by decide)).trans (FR.at f8 10 1 rfl))))
            refine wp_loop (α := Int) (fun a => [(0, .ref 10), (1, iV (a))]) (fun a τ => (0 ≤ a ∧ a ≤ 1600) ∧ GI τ ∧ FR Wtc τ40 τ ∧ ((a) ≤ (τ40.1 10 1)) ∧ ((τ.1 10 5) + (τ.1 10 6) = (a))) (fun a τ => Int.toNat (1700 - (a))) ((τ6.1 10 2)) τ40 ?_ ?_
            · skip
              have q45 : (τ40.1 10 5) = (τ6.1 10 2) := ((FRw.nj f42 (by decide)).trans ((FRw.nj f38 (by decide)).trans e35))
              have q46 : (τ40.1 10 6) = 0 := ((FRw.nj f42 (by decide)).trans e39)
              exact ⟨⟨by omega, by omega⟩, g41, FR.rf, (by omega), (by omega)⟩
            · rintro x47 τ49 ⟨h48, g50, f51, p52, p53⟩ ih54
              have q55 : (τ49.1 10 5) = (τ6.1 10 2) := ((FR.at f51 10 5 rfl).trans ((FRw.nj f42 (by decide)).trans ((FRw.nj f38 (by decide)).trans e35)))
              have b56 := GI.b g50 10 6 kd10 (lo := 0) (hi := 1600) rfl
              show WP 37 51 [(0, .ref 10), (1, iV x47)] [] _ _ _ _
              show WP 37 51 [(0, .ref 10), (1, iV x47)] [] _ _ _ _
              refine wp_il1 jF_37_51 rfl rfl (pc2 := 52) ?_
              refine wp_al1 jF_37_52 rfl rfl (pc2 := 53) ?_
              refine wp_gi jF_37_53 kd10 (by decide) rfl ((FR.at f51 10 1 rfl).trans ((FRw.nj f42 (by decide)).trans ((FRw.nj f38 (by decide)).trans ((FRw.nj f34 (by decide)).trans (FR.at f8 10 1 rfl))))) rfl (pc2 := 56) ?_
              refine wp_i_ge jF_37_56 (m_rgb h48 rfl) (m_rgb b1 rfl) rfl (pc2 := 59) ?_ ?_
              · intro h57
                refine wp_ic jF_37_123 rfl (pc2 := 124) ?_
                refine wp_ri jF_37_124 rfl ?_
                have q58 : (τ49.1 10 2) = (τ6.1 10 2) := ((FR.at f51 10 2 rfl).trans ((FRw.nj f42 (by decide)).trans ((FRw.nj f38 (by decide)).trans (FRw.nj f34 (by decide)))))
                exact ⟨1, rfl, ⟨by omega, by omega⟩, g50, (FR.up (FR.w (FR.w (FR.w f8 f34 rfl) f38 rfl) f42 rfl) f51 sb_Wtc_Wtp), (by omega), (by omega)⟩
              · intro h57
                refine wp_al1 jF_37_59 rfl rfl (pc2 := 60) ?_
                refine wp_il1 jF_37_60 rfl rfl (pc2 := 61) ?_
                refine wp_cV (as := [iV x47]) (rest := []) (a := 10) (mx := 2) (ci := 6) jF_37_61 kd10 (by decide) rfl rfl rfl rfl rfl (by omega) (by omega) rfl (pc2 := 64) ?_
                have q59 : (τ49.1 10 1) = (σ.1 10 1) := ((FR.at f51 10 1 rfl).trans ((FRw.nj f42 (by decide)).trans ((FRw.nj f38 (by decide)).trans ((FRw.nj f34 (by decide)).trans (FR.at f8 10 1 rfl)))))
                refine wp_use (m_39_r10 τ49 g50 x47 (by omega) (by omega)  _ _ (by omega) (by omega)) ?_
                rintro _ _ ⟨z64, rfl, h65, rfl, p60, p61⟩
                show WP 37 64 [(0, .ref 10), (1, iV x47)] [iV z64] _ _ _ _
                refine wp_cS (as := [iV z64]) (rest := []) (mx := 1) jF_37_64 rfl rfl rfl rfl (by omega) (by omega) rfl (pc2 := 67) ?_
                show WP 38 0 [(0, iV z64)] [] _ _ _ _
                refine wp_il1 jF_38_0 rfl rfl (pc2 := 1) ?_
                refine wp_bi jF_38_1 (by decide) rfl (pc2 := 3) ?_
                refine wp_i_lt jF_38_3 (m_rgb h65 rfl) (m_rgl rfl) rfl (pc2 := 6) ?_ ?_
                · intro h66
                  refine wp_ic jF_38_16 rfl (pc2 := 17) ?_
                  refine wp_ri jF_38_17 rfl ?_
                  show WP 37 67 [(0, .ref 10), (1, iV x47)] [iV 0] _ _ _ _
                  refine wp_z_eq jF_37_67 (m_rgl rfl) rfl (pc2 := 70) ?_ ?_
                  · intro h67
                    refine wp_ic jF_37_123 rfl (pc2 := 124) ?_
                    refine wp_ri jF_37_124 rfl ?_
                    have q68 : (τ49.1 10 2) = (τ6.1 10 2) := ((FR.at f51 10 2 rfl).trans ((FRw.nj f42 (by decide)).trans ((FRw.nj f38 (by decide)).trans (FRw.nj f34 (by decide)))))
                    exact ⟨1, rfl, ⟨by omega, by omega⟩, g50, (FR.up (FR.w (FR.w (FR.w f8 f34 rfl) f38 rfl) f42 rfl) f51 sb_Wtc_Wtp), (by omega), (by omega)⟩
                  · intro h67; exfalso; omega
                · intro h66
                  replace p60 := p60 (by omega)
                  refine wp_il1 jF_38_6 rfl rfl (pc2 := 7) ?_
                  refine wp_bi jF_38_7 (by decide) rfl (pc2 := 9) ?_
                  refine wp_i_gt jF_38_9 ⟨by omega, by omega⟩ (m_rgl rfl) rfl (pc2 := 12) ?_ ?_
                  · intro h69
                    refine wp_ic jF_38_16 rfl (pc2 := 17) ?_
                    refine wp_ri jF_38_17 rfl ?_
                    show WP 37 67 [(0, .ref 10), (1, iV x47)] [iV 0] _ _ _ _
                    refine wp_z_eq jF_37_67 (m_rgl rfl) rfl (pc2 := 70) ?_ ?_
                    · intro h70
                      refine wp_ic jF_37_123 rfl (pc2 := 124) ?_
                      refine wp_ri jF_37_124 rfl ?_
                      have q71 : (τ49.1 10 2) = (τ6.1 10 2) := ((FR.at f51 10 2 rfl).trans ((FRw.nj f42 (by decide)).trans ((FRw.nj f38 (by decide)).trans (FRw.nj f34 (by decide)))))
                      exact ⟨1, rfl, ⟨by omega, by omega⟩, g50, (FR.up (FR.w (FR.w (FR.w f8 f34 rfl) f38 rfl) f42 rfl) f51 sb_Wtc_Wtp), (by omega), (by omega)⟩
                    · intro h70; exfalso; omega
                  · intro h69
                    refine wp_ic jF_38_12 rfl (pc2 := 13) ?_
                    refine wp_go jF_38_13 ?_
                    refine wp_ri jF_38_17 rfl ?_
                    show WP 37 67 [(0, .ref 10), (1, iV x47)] [iV 1] _ _ _ _
                    refine wp_z_eq jF_37_67 (m_rgl rfl) rfl (pc2 := 70) ?_ ?_
                    · intro h72; exfalso; omega
                    · intro h72
                      refine wp_al1 jF_37_70 rfl rfl (pc2 := 71) ?_
                      refine wp_gi jF_37_71 kd10 (by decide) rfl rfl rfl (pc2 := 74) ?_
                      refine wp_bi jF_37_74 (by decide) rfl (pc2 := 76) ?_
                      refine wp_i_ge jF_37_76 (m_rgb b56 rfl) (m_rgl rfl) rfl (pc2 := 79) ?_ ?_
                      · intro h73
                        refine wp_al1 jF_37_107 rfl rfl (pc2 := 108) ?_
                        refine wp_dup jF_37_108 rfl rfl (pc2 := 109) ?_
                        refine wp_gi jF_37_109 kd10 (by decide) rfl rfl rfl (pc2 := 112) ?_
                        refine wp_ic jF_37_112 rfl (pc2 := 113) ?_
                        refine wp_add jF_37_113 rfl (pc2 := 114) ?_
                        refine wp_pi jF_37_114 kd10 (by decide) rfl rfl rfl (pc2 := 117) g50 (lo := 0) (hi := 1600) rfl (by omega) (by omega) ?_
                        intro τ74 g75 f76 e77
                        refine wp_inc (lv2 := [(0, .ref 10), (1, iV (x47 + 1))]) jF_37_117 rfl rfl rfl rfl (pc2 := 120) ?_
                        refine wp_go jF_37_120 ?_
                        have q78 : (τ74.1 10 5) = (τ6.1 10 2) := ((FRw.nj f76 (by decide)).trans ((FR.at f51 10 5 rfl).trans ((FRw.nj f42 (by decide)).trans ((FRw.nj f38 (by decide)).trans e35))))
                        have q79 : (τ74.1 10 6) = ((τ49.1 10 6) + 1) := e77
                        exact ih54 ((x47 + 1)) τ74 ⟨⟨by omega, by omega⟩, g75, (FR.w f51 f76 rfl), (by omega), (by omega)⟩ (by show Int.toNat (1700 - (x47 + 1)) < Int.toNat (1700 - x47); omega)
                      · intro h73
                        refine wp_al1 jF_37_79 rfl rfl (pc2 := 80) ?_
                        refine wp_dup jF_37_80 rfl rfl (pc2 := 81) ?_
                        have b80 := GI.b g50 10 7 kd10 (lo := (-2147483648)) (hi := 2147483647) rfl
                        refine wp_gi jF_37_81 kd10 (by decide) rfl rfl rfl (pc2 := 84) ?_
                        refine wp_al1 jF_37_84 rfl rfl (pc2 := 85) ?_
                        refine wp_gr (b := 11) jF_37_85 kd10 (by decide) (c := 111) rfl rfl rfl (pc2 := 88) ?_
                        refine wp_il1 jF_37_88 rfl rfl (pc2 := 89) ?_
                        have b81 := GI.b hg 11 x47.toNat kd11 (lo := 0) (hi := 255) rfl
                        refine wp_iald (n := 1600) (e := (σ.1 11 x47.toNat)) jF_37_89 kd11 (by decide) rfl rfl (by omega) (by omega) ((FR.at f51 11 x47.toNat rfl).trans ((FRw.na f42 (by decide)).trans ((FRw.na f38 (by decide)).trans ((FRw.na f34 (by decide)).trans (FR.at f8 11 x47.toNat rfl))))) rfl (pc2 := 90) ?_
                        refine wp_bi jF_37_90 (by decide) rfl (pc2 := 92) ?_
                        refine wp_sub jF_37_92 rfl (pc2 := 93) ?_
                        refine wp_bi jF_37_93 (by decide) rfl (pc2 := 95) ?_
                        refine wp_ic jF_37_95 rfl (pc2 := 96) ?_
                        refine wp_al1 jF_37_96 rfl rfl (pc2 := 97) ?_
                        refine wp_gi jF_37_97 kd10 (by decide) rfl rfl rfl (pc2 := 100) ?_
                        refine wp_mul jF_37_100 rfl (pc2 := 101) ?_
                        refine wp_sub jF_37_101 rfl (pc2 := 102) ?_
                        refine wp_any2 (pc2 := 103) jF_37_102 rfl rfl ?_
                        intro z82 h83
                        refine wp_any2 (pc2 := 104) jF_37_103 rfl rfl ?_
                        intro z84 h85
                        refine wp_pi jF_37_104 kd10 (by decide) rfl rfl rfl (pc2 := 107) g50 (lo := (-2147483648)) (hi := 2147483647) rfl (by omega) (by omega) ?_
                        intro τ86 g87 f88 e89
                        refine wp_al1 jF_37_107 rfl rfl (pc2 := 108) ?_
                        refine wp_dup jF_37_108 rfl rfl (pc2 := 109) ?_
                        refine wp_gi jF_37_109 kd10 (by decide) rfl (FRw.nj f88 (by decide)) rfl (pc2 := 112) ?_
                        refine wp_ic jF_37_112 rfl (pc2 := 113) ?_
                        refine wp_add jF_37_113 rfl (pc2 := 114) ?_
                        refine wp_pi jF_37_114 kd10 (by decide) rfl rfl rfl (pc2 := 117) g87 (lo := 0) (hi := 1600) rfl (by omega) (by omega) ?_
                        intro τ90 g91 f92 e93
                        refine wp_inc (lv2 := [(0, .ref 10), (1, iV (x47 + 1))]) jF_37_117 rfl rfl rfl rfl (pc2 := 120) ?_
                        refine wp_go jF_37_120 ?_
                        have q94 : (τ90.1 10 5) = (τ6.1 10 2) := ((FRw.nj f92 (by decide)).trans ((FRw.nj f88 (by decide)).trans ((FR.at f51 10 5 rfl).trans ((FRw.nj f42 (by decide)).trans ((FRw.nj f38 (by decide)).trans e35)))))
                        have q95 : (τ90.1 10 6) = ((τ49.1 10 6) + 1) := e93
                        exact ih54 ((x47 + 1)) τ90 ⟨⟨by omega, by omega⟩, g91, (FR.w (FR.w f51 f88 rfl) f92 rfl), (by omega), (by omega)⟩ (by show Int.toNat (1700 - (x47 + 1)) < Int.toNat (1700 - x47); omega)
          · intro h31; exfalso; omega
        · intro h30
          replace p24 := p24 (by omega)
          refine wp_il1 jF_40_6 rfl rfl (pc2 := 7) ?_
          refine wp_bi jF_40_7 (by decide) rfl (pc2 := 9) ?_
          refine wp_i_gt jF_40_9 ⟨by omega, by omega⟩ (m_rgl rfl) rfl (pc2 := 12) ?_ ?_
          · intro h96
            refine wp_ic jF_40_16 rfl (pc2 := 17) ?_
            refine wp_ri jF_40_17 rfl ?_
            show WP 37 23 [(0, .ref 10)] [iV 0] _ _ _ _
            refine wp_z_eq jF_37_23 (m_rgl rfl) rfl (pc2 := 26) ?_ ?_
            · intro h97
              refine wp_al1 jF_37_28 rfl rfl (pc2 := 29) ?_
              refine wp_al1 jF_37_29 rfl rfl (pc2 := 30) ?_
              refine wp_gi jF_37_30 kd10 (by decide) rfl rfl rfl (pc2 := 33) ?_
              refine wp_pi jF_37_33 kd10 (by decide) rfl rfl rfl (pc2 := 36) g7 (lo := 0) (hi := 1600) rfl (by omega) (by omega) ?_
              intro τ98 g99 f100 e101
              refine wp_al1 jF_37_36 rfl rfl (pc2 := 37) ?_
              refine wp_ic jF_37_37 rfl (pc2 := 38) ?_
              refine wp_pi jF_37_38 kd10 (by decide) rfl rfl rfl (pc2 := 41) g99 (lo := 0) (hi := 1600) rfl (by omega) (by omega) ?_
              intro τ102 g103 f104 e105
              refine wp_al1 jF_37_41 rfl rfl (pc2 := 42) ?_
              refine wp_ic jF_37_42 rfl (pc2 := 43) ?_
              refine wp_pi jF_37_43 kd10 (by decide) rfl rfl rfl (pc2 := 46) g103 (lo := (-2147483648)) (hi := 2147483647) rfl (by omega) (by omega) ?_
              intro τ106 g107 f108 e109
              refine wp_al1 jF_37_46 rfl rfl (pc2 := 47) ?_
              refine wp_gi jF_37_47 kd10 (by decide) rfl ((FRw.nj f108 (by decide)).trans ((FRw.nj f104 (by decide)).trans (FRw.nj f100 (by decide)))) rfl (pc2 := 50) ?_
              refine wp_is1 (lv2 := [(0, .ref 10), (1, iV (τ6.1 10 2))]) jF_37_50 rfl rfl rfl (pc2 := 51) ?_
              have q110 : (τ106.1 10 1) = (σ.1 10 1) := ((FRw.nj f108 (by decide)).trans ((FRw.nj f104 (by decide)).trans ((FRw.nj f100 (by decide)).trans (FR.at f8 10 1 rfl))))
              refine wp_loop (α := Int) (fun a => [(0, .ref 10), (1, iV (a))]) (fun a τ => (0 ≤ a ∧ a ≤ 1600) ∧ GI τ ∧ FR Wtc τ106 τ ∧ ((a) ≤ (τ106.1 10 1)) ∧ ((τ.1 10 5) + (τ.1 10 6) = (a))) (fun a τ => Int.toNat (1700 - (a))) ((τ6.1 10 2)) τ106 ?_ ?_
              · skip
                have q111 : (τ106.1 10 5) = (τ6.1 10 2) := ((FRw.nj f108 (by decide)).trans ((FRw.nj f104 (by decide)).trans e101))
                have q112 : (τ106.1 10 6) = 0 := ((FRw.nj f108 (by decide)).trans e105)
                exact ⟨⟨by omega, by omega⟩, g107, FR.rf, (by omega), (by omega)⟩
              · rintro x113 τ115 ⟨h114, g116, f117, p118, p119⟩ ih120
                have q121 : (τ115.1 10 5) = (τ6.1 10 2) := ((FR.at f117 10 5 rfl).trans ((FRw.nj f108 (by decide)).trans ((FRw.nj f104 (by decide)).trans e101)))
                have b122 := GI.b g116 10 6 kd10 (lo := 0) (hi := 1600) rfl
                show WP 37 51 [(0, .ref 10), (1, iV x113)] [] _ _ _ _
                show WP 37 51 [(0, .ref 10), (1, iV x113)] [] _ _ _ _
                refine wp_il1 jF_37_51 rfl rfl (pc2 := 52) ?_
                refine wp_al1 jF_37_52 rfl rfl (pc2 := 53) ?_
                refine wp_gi jF_37_53 kd10 (by decide) rfl ((FR.at f117 10 1 rfl).trans ((FRw.nj f108 (by decide)).trans ((FRw.nj f104 (by decide)).trans ((FRw.nj f100 (by decide)).trans (FR.at f8 10 1 rfl))))) rfl (pc2 := 56) ?_
                refine wp_i_ge jF_37_56 (m_rgb h114 rfl) (m_rgb b1 rfl) rfl (pc2 := 59) ?_ ?_
                · intro h123
                  refine wp_ic jF_37_123 rfl (pc2 := 124) ?_
                  refine wp_ri jF_37_124 rfl ?_
                  have q124 : (τ115.1 10 2) = (τ6.1 10 2) := ((FR.at f117 10 2 rfl).trans ((FRw.nj f108 (by decide)).trans ((FRw.nj f104 (by decide)).trans (FRw.nj f100 (by decide)))))
                  exact ⟨1, rfl, ⟨by omega, by omega⟩, g116, (FR.up (FR.w (FR.w (FR.w f8 f100 rfl) f104 rfl) f108 rfl) f117 sb_Wtc_Wtp), (by omega), (by omega)⟩
                · intro h123
                  refine wp_al1 jF_37_59 rfl rfl (pc2 := 60) ?_
                  refine wp_il1 jF_37_60 rfl rfl (pc2 := 61) ?_
                  refine wp_cV (as := [iV x113]) (rest := []) (a := 10) (mx := 2) (ci := 6) jF_37_61 kd10 (by decide) rfl rfl rfl rfl rfl (by omega) (by omega) rfl (pc2 := 64) ?_
                  have q125 : (τ115.1 10 1) = (σ.1 10 1) := ((FR.at f117 10 1 rfl).trans ((FRw.nj f108 (by decide)).trans ((FRw.nj f104 (by decide)).trans ((FRw.nj f100 (by decide)).trans (FR.at f8 10 1 rfl)))))
                  refine wp_use (m_39_r10 τ115 g116 x113 (by omega) (by omega)  _ _ (by omega) (by omega)) ?_
                  rintro _ _ ⟨z130, rfl, h131, rfl, p126, p127⟩
                  show WP 37 64 [(0, .ref 10), (1, iV x113)] [iV z130] _ _ _ _
                  refine wp_cS (as := [iV z130]) (rest := []) (mx := 1) jF_37_64 rfl rfl rfl rfl (by omega) (by omega) rfl (pc2 := 67) ?_
                  show WP 38 0 [(0, iV z130)] [] _ _ _ _
                  refine wp_il1 jF_38_0 rfl rfl (pc2 := 1) ?_
                  refine wp_bi jF_38_1 (by decide) rfl (pc2 := 3) ?_
                  refine wp_i_lt jF_38_3 (m_rgb h131 rfl) (m_rgl rfl) rfl (pc2 := 6) ?_ ?_
                  · intro h132
                    refine wp_ic jF_38_16 rfl (pc2 := 17) ?_
                    refine wp_ri jF_38_17 rfl ?_
                    show WP 37 67 [(0, .ref 10), (1, iV x113)] [iV 0] _ _ _ _
                    refine wp_z_eq jF_37_67 (m_rgl rfl) rfl (pc2 := 70) ?_ ?_
                    · intro h133
                      refine wp_ic jF_37_123 rfl (pc2 := 124) ?_
                      refine wp_ri jF_37_124 rfl ?_
                      have q134 : (τ115.1 10 2) = (τ6.1 10 2) := ((FR.at f117 10 2 rfl).trans ((FRw.nj f108 (by decide)).trans ((FRw.nj f104 (by decide)).trans (FRw.nj f100 (by decide)))))
                      exact ⟨1, rfl, ⟨by omega, by omega⟩, g116, (FR.up (FR.w (FR.w (FR.w f8 f100 rfl) f104 rfl) f108 rfl) f117 sb_Wtc_Wtp), (by omega), (by omega)⟩
                    · intro h133; exfalso; omega
                  · intro h132
                    replace p126 := p126 (by omega)
                    refine wp_il1 jF_38_6 rfl rfl (pc2 := 7) ?_
                    refine wp_bi jF_38_7 (by decide) rfl (pc2 := 9) ?_
                    refine wp_i_gt jF_38_9 ⟨by omega, by omega⟩ (m_rgl rfl) rfl (pc2 := 12) ?_ ?_
                    · intro h135
                      refine wp_ic jF_38_16 rfl (pc2 := 17) ?_
                      refine wp_ri jF_38_17 rfl ?_
                      show WP 37 67 [(0, .ref 10), (1, iV x113)] [iV 0] _ _ _ _
                      refine wp_z_eq jF_37_67 (m_rgl rfl) rfl (pc2 := 70) ?_ ?_
                      · intro h136
                        refine wp_ic jF_37_123 rfl (pc2 := 124) ?_
                        refine wp_ri jF_37_124 rfl ?_
                        have q137 : (τ115.1 10 2) = (τ6.1 10 2) := ((FR.at f117 10 2 rfl).trans ((FRw.nj f108 (by decide)).trans ((FRw.nj f104 (by decide)).trans (FRw.nj f100 (by decide)))))
                        exact ⟨1, rfl, ⟨by omega, by omega⟩, g116, (FR.up (FR.w (FR.w (FR.w f8 f100 rfl) f104 rfl) f108 rfl) f117 sb_Wtc_Wtp), (by omega), (by omega)⟩
                      · intro h136; exfalso; omega
                    · intro h135
                      refine wp_ic jF_38_12 rfl (pc2 := 13) ?_
                      refine wp_go jF_38_13 ?_
                      refine wp_ri jF_38_17 rfl ?_
                      show WP 37 67 [(0, .ref 10), (1, iV x113)] [iV 1] _ _ _ _
                      refine wp_z_eq jF_37_67 (m_rgl rfl) rfl (pc2 := 70) ?_ ?_
                      · intro h138; exfalso; omega
                      · intro h138
                        refine wp_al1 jF_37_70 rfl rfl (pc2 := 71) ?_
                        refine wp_gi jF_37_71 kd10 (by decide) rfl rfl rfl (pc2 := 74) ?_
                        refine wp_bi jF_37_74 (by decide) rfl (pc2 := 76) ?_
                        refine wp_i_ge jF_37_76 (m_rgb b122 rfl) (m_rgl rfl) rfl (pc2 := 79) ?_ ?_
                        · intro h139
                          refine wp_al1 jF_37_107 rfl rfl (pc2 := 108) ?_
                          refine wp_dup jF_37_108 rfl rfl (pc2 := 109) ?_
                          refine wp_gi jF_37_109 kd10 (by decide) rfl rfl rfl (pc2 := 112) ?_
                          refine wp_ic jF_37_112 rfl (pc2 := 113) ?_
                          refine wp_add jF_37_113 rfl (pc2 := 114) ?_
                          refine wp_pi jF_37_114 kd10 (by decide) rfl rfl rfl (pc2 := 117) g116 (lo := 0) (hi := 1600) rfl (by omega) (by omega) ?_
                          intro τ140 g141 f142 e143
                          refine wp_inc (lv2 := [(0, .ref 10), (1, iV (x113 + 1))]) jF_37_117 rfl rfl rfl rfl (pc2 := 120) ?_
                          refine wp_go jF_37_120 ?_
                          have q144 : (τ140.1 10 5) = (τ6.1 10 2) := ((FRw.nj f142 (by decide)).trans ((FR.at f117 10 5 rfl).trans ((FRw.nj f108 (by decide)).trans ((FRw.nj f104 (by decide)).trans e101))))
                          have q145 : (τ140.1 10 6) = ((τ115.1 10 6) + 1) := e143
                          exact ih120 ((x113 + 1)) τ140 ⟨⟨by omega, by omega⟩, g141, (FR.w f117 f142 rfl), (by omega), (by omega)⟩ (by show Int.toNat (1700 - (x113 + 1)) < Int.toNat (1700 - x113); omega)
                        · intro h139
                          refine wp_al1 jF_37_79 rfl rfl (pc2 := 80) ?_
                          refine wp_dup jF_37_80 rfl rfl (pc2 := 81) ?_
                          have b146 := GI.b g116 10 7 kd10 (lo := (-2147483648)) (hi := 2147483647) rfl
                          refine wp_gi jF_37_81 kd10 (by decide) rfl rfl rfl (pc2 := 84) ?_
                          refine wp_al1 jF_37_84 rfl rfl (pc2 := 85) ?_
                          refine wp_gr (b := 11) jF_37_85 kd10 (by decide) (c := 111) rfl rfl rfl (pc2 := 88) ?_
                          refine wp_il1 jF_37_88 rfl rfl (pc2 := 89) ?_
                          have b147 := GI.b hg 11 x113.toNat kd11 (lo := 0) (hi := 255) rfl
                          refine wp_iald (n := 1600) (e := (σ.1 11 x113.toNat)) jF_37_89 kd11 (by decide) rfl rfl (by omega) (by omega) ((FR.at f117 11 x113.toNat rfl).trans ((FRw.na f108 (by decide)).trans ((FRw.na f104 (by decide)).trans ((FRw.na f100 (by decide)).trans (FR.at f8 11 x113.toNat rfl))))) rfl (pc2 := 90) ?_
                          refine wp_bi jF_37_90 (by decide) rfl (pc2 := 92) ?_
                          refine wp_sub jF_37_92 rfl (pc2 := 93) ?_
                          refine wp_bi jF_37_93 (by decide) rfl (pc2 := 95) ?_
                          refine wp_ic jF_37_95 rfl (pc2 := 96) ?_
                          refine wp_al1 jF_37_96 rfl rfl (pc2 := 97) ?_
                          refine wp_gi jF_37_97 kd10 (by decide) rfl rfl rfl (pc2 := 100) ?_
                          refine wp_mul jF_37_100 rfl (pc2 := 101) ?_
                          refine wp_sub jF_37_101 rfl (pc2 := 102) ?_
                          refine wp_any2 (pc2 := 103) jF_37_102 rfl rfl ?_
                          intro z148 h149
                          refine wp_any2 (pc2 := 104) jF_37_103 rfl rfl ?_
                          intro z150 h151
                          refine wp_pi jF_37_104 kd10 (by decide) rfl rfl rfl (pc2 := 107) g116 (lo := (-2147483648)) (hi := 2147483647) rfl (by omega) (by omega) ?_
                          intro τ152 g153 f154 e155
                          refine wp_al1 jF_37_107 rfl rfl (pc2 := 108) ?_
                          refine wp_dup jF_37_108 rfl rfl (pc2 := 109) ?_
                          refine wp_gi jF_37_109 kd10 (by decide) rfl (FRw.nj f154 (by decide)) rfl (pc2 := 112) ?_
                          refine wp_ic jF_37_112 rfl (pc2 := 113) ?_
                          refine wp_add jF_37_113 rfl (pc2 := 114) ?_
                          refine wp_pi jF_37_114 kd10 (by decide) rfl rfl rfl (pc2 := 117) g153 (lo := 0) (hi := 1600) rfl (by omega) (by omega) ?_
                          intro τ156 g157 f158 e159
                          refine wp_inc (lv2 := [(0, .ref 10), (1, iV (x113 + 1))]) jF_37_117 rfl rfl rfl rfl (pc2 := 120) ?_
                          refine wp_go jF_37_120 ?_
                          have q160 : (τ156.1 10 5) = (τ6.1 10 2) := ((FRw.nj f158 (by decide)).trans ((FRw.nj f154 (by decide)).trans ((FR.at f117 10 5 rfl).trans ((FRw.nj f108 (by decide)).trans ((FRw.nj f104 (by decide)).trans e101)))))
                          have q161 : (τ156.1 10 6) = ((τ115.1 10 6) + 1) := e159
                          exact ih120 ((x113 + 1)) τ156 ⟨⟨by omega, by omega⟩, g157, (FR.w (FR.w f117 f154 rfl) f158 rfl), (by omega), (by omega)⟩ (by show Int.toNat (1700 - (x113 + 1)) < Int.toNat (1700 - x113); omega)
            · intro h97; exfalso; omega
          · intro h96
            refine wp_ic jF_40_12 rfl (pc2 := 13) ?_
            refine wp_go jF_40_13 ?_
            refine wp_ri jF_40_17 rfl ?_
            show WP 37 23 [(0, .ref 10)] [iV 1] _ _ _ _
            refine wp_z_eq jF_37_23 (m_rgl rfl) rfl (pc2 := 26) ?_ ?_
            · intro h162; exfalso; omega
            · intro h162
              refine wp_ic jF_37_26 rfl (pc2 := 27) ?_
              refine wp_ri jF_37_27 rfl ?_
              have b163 := GI.b g7 10 5 kd10 (lo := 0) (hi := 1600) rfl
              have b164 := GI.b g7 10 6 kd10 (lo := 0) (hi := 1600) rfl
              exact ⟨0, rfl, ⟨by omega, by omega⟩, g7, f8, (by omega), (by omega)⟩
set_option maxHeartbeats 4000000 in
set_option maxRecDepth 20000 in
/-- TongueReader.takesKind -/
theorem m_36_r12_20 (σ : jM) (hg : GI σ)   (fr lo : Nat) (hfr : 2 ≤ fr) (hlo : 42 ≤ lo) : WP 36 0 (lv_args 0 [.ref 12, .ref 20]) [] fr lo σ (fun v τ => ∃ z : Int, v = some (iV z) ∧ ((-1) ≤ z ∧ z ≤ 8) ∧ GI τ ∧ FR Wtp σ τ) := by
  show WP 36 0 [(0, .ref 12), (1, .ref 20)] [] _ _ _ _
  refine wp_al1 jF_36_0 rfl rfl (pc2 := 1) ?_
  refine wp_gr (b := 10) jF_36_1 kd12 (by decide) (c := 110) rfl rfl rfl (pc2 := 4) ?_
  refine wp_cV (as := []) (rest := []) (a := 10) (mx := 2) (ci := 6) jF_36_4 kd10 (by decide) rfl rfl rfl rfl rfl (by omega) (by omega) rfl (pc2 := 7) ?_
  have b1 := GI.b hg 10 1 kd10 (lo := 0) (hi := 1600) rfl
  refine wp_use (m_37_r10 σ hg   _ _ (by omega) (by omega)) ?_
  rintro _ τ3 ⟨z6, rfl, h7, g4, f5, p2⟩
  show WP 36 7 [(0, .ref 12), (1, .ref 20)] [iV z6] _ _ _ _
  refine wp_z_eq jF_36_7 (m_rgb h7 rfl) rfl (pc2 := 10) ?_ ?_
  · intro h8
    clear p2
    refine wp_ic jF_36_24 rfl (pc2 := 25) ?_
    refine wp_is1 (lv2 := [(0, .ref 12), (1, .ref 20), (2, iV (-1))]) jF_36_25 rfl rfl rfl (pc2 := 26) ?_
    refine wp_il1 jF_36_26 rfl rfl (pc2 := 27) ?_
    refine wp_ic jF_36_27 rfl (pc2 := 28) ?_
    refine wp_i_eq jF_36_28 (m_rgl rfl) (m_rgl rfl) rfl (pc2 := 31) ?_ ?_
    · intro h9
      refine wp_al1 jF_36_37 rfl rfl (pc2 := 38) ?_
      refine wp_gr (b := 10) jF_36_38 kd12 (by decide) (c := 110) rfl rfl rfl (pc2 := 41) ?_
      refine wp_ic jF_36_41 rfl (pc2 := 42) ?_
      refine wp_al1 jF_36_42 rfl rfl (pc2 := 43) ?_
      refine wp_gr (b := 10) jF_36_43 kd12 (by decide) (c := 110) rfl rfl rfl (pc2 := 46) ?_
      have b10 := GI.b g4 10 2 kd10 (lo := 0) (hi := 1600) rfl
      refine wp_gi jF_36_46 kd10 (by decide) rfl rfl rfl (pc2 := 49) ?_
      refine wp_cV (as := [iV 1, iV (τ3.1 10 2)]) (rest := []) (a := 10) (mx := 3) (ci := 6) jF_36_49 kd10 (by decide) rfl rfl rfl rfl rfl (by omega) (by omega) rfl (pc2 := 52) ?_
      refine wp_use (m_42_r10 τ3 g4 1 (by omega) (by omega) (τ3.1 10 2) (by omega) (by omega)  _ _ (by omega) (by omega)) ?_
      rintro _ τ11 ⟨z14, rfl, h15, g12, f13⟩
      show WP 36 52 [(0, .ref 12), (1, .ref 20), (2, iV (-1))] [iV z14] _ _ _ _
      refine wp_pop jF_36_52 rfl rfl (pc2 := 53) ?_
      refine wp_ic jF_36_53 rfl (pc2 := 54) ?_
      refine wp_ri jF_36_54 rfl ?_
      exact ⟨(-1), rfl, ⟨by omega, by omega⟩, g12, (FR.up f5 f13 sb_Wtp_Wtp)⟩
    · intro h9; exfalso; omega
  · intro h8
    replace p2 := p2 (by omega)
    refine wp_al1 jF_36_10 rfl rfl (pc2 := 11) ?_
    refine wp_gr (b := 10) jF_36_11 kd12 (by decide) (c := 110) rfl rfl rfl (pc2 := 14) ?_
    refine wp_al1 jF_36_14 rfl rfl (pc2 := 15) ?_
    refine wp_gr (b := 13) jF_36_15 kd12 (by decide) (c := 113) rfl rfl rfl (pc2 := 18) ?_
    refine wp_cV (as := [.ref 13]) (rest := []) (a := 10) (mx := 3) (ci := 6) jF_36_18 kd10 (by decide) rfl rfl rfl rfl rfl (by omega) (by omega) rfl (pc2 := 21) ?_
    refine wp_use (m_41_r10_13 τ3 g4   _ _ (by omega) (by omega)) ?_
    rintro _ _ ⟨z18, rfl, h19, rfl⟩
    show WP 36 21 [(0, .ref 12), (1, .ref 20)] [iV z18] _ _ _ _
    refine wp_go jF_36_21 ?_
    refine wp_is1 (lv2 := [(0, .ref 12), (1, .ref 20), (2, iV z18)]) jF_36_25 rfl rfl rfl (pc2 := 26) ?_
    refine wp_il1 jF_36_26 rfl rfl (pc2 := 27) ?_
    refine wp_ic jF_36_27 rfl (pc2 := 28) ?_
    refine wp_i_eq jF_36_28 (m_rgb h19 rfl) (m_rgl rfl) rfl (pc2 := 31) ?_ ?_
    · intro h20
      refine wp_al1 jF_36_37 rfl rfl (pc2 := 38) ?_
      refine wp_gr (b := 10) jF_36_38 kd12 (by decide) (c := 110) rfl rfl rfl (pc2 := 41) ?_
      refine wp_ic jF_36_41 rfl (pc2 := 42) ?_
      refine wp_al1 jF_36_42 rfl rfl (pc2 := 43) ?_
      refine wp_gr (b := 10) jF_36_43 kd12 (by decide) (c := 110) rfl rfl rfl (pc2 := 46) ?_
      have b21 := GI.b g4 10 2 kd10 (lo := 0) (hi := 1600) rfl
      refine wp_gi jF_36_46 kd10 (by decide) rfl rfl rfl (pc2 := 49) ?_
      refine wp_cV (as := [iV 1, iV (τ3.1 10 2)]) (rest := []) (a := 10) (mx := 3) (ci := 6) jF_36_49 kd10 (by decide) rfl rfl rfl rfl rfl (by omega) (by omega) rfl (pc2 := 52) ?_
      refine wp_use (m_42_r10 τ3 g4 1 (by omega) (by omega) (τ3.1 10 2) (by omega) (by omega)  _ _ (by omega) (by omega)) ?_
      rintro _ τ22 ⟨z25, rfl, h26, g23, f24⟩
      show WP 36 52 [(0, .ref 12), (1, .ref 20), (2, iV z18)] [iV z25] _ _ _ _
      refine wp_pop jF_36_52 rfl rfl (pc2 := 53) ?_
      refine wp_ic jF_36_53 rfl (pc2 := 54) ?_
      refine wp_ri jF_36_54 rfl ?_
      exact ⟨(-1), rfl, ⟨by omega, by omega⟩, g23, (FR.up f5 f24 sb_Wtp_Wtp)⟩
    · intro h20
      refine wp_il1 jF_36_31 rfl rfl (pc2 := 32) ?_
      refine wp_bi jF_36_32 (by decide) rfl (pc2 := 34) ?_
      refine wp_i_le jF_36_34 ⟨by omega, by omega⟩ (m_rgl rfl) rfl (pc2 := 37) ?_ ?_
      · intro h27
        refine wp_al1 jF_36_55 rfl rfl (pc2 := 56) ?_
        refine wp_il1 jF_36_56 rfl rfl (pc2 := 57) ?_
        refine wp_cV (as := [iV z18]) (rest := []) (a := 20) (mx := 2) (ci := 8) jF_36_57 kd20 (by decide) rfl rfl rfl rfl rfl (by omega) (by omega) rfl (pc2 := 60) ?_
        refine wp_use (m_43_r20 τ3 g4 z18 (by omega) (by omega)  _ _ (by omega) (by omega)) ?_
        rintro _ _ ⟨z31, rfl, h32, rfl, p28⟩
        show WP 36 60 [(0, .ref 12), (1, .ref 20), (2, iV z18)] [iV z31] _ _ _ _
        refine wp_z_eq jF_36_60 (m_rgb h32 rfl) rfl (pc2 := 63) ?_ ?_
        · intro h33
          replace p28 := p28 (by omega)
          refine wp_al1 jF_36_81 rfl rfl (pc2 := 82) ?_
          refine wp_gr (b := 10) jF_36_82 kd12 (by decide) (c := 110) rfl rfl rfl (pc2 := 85) ?_
          refine wp_cV (as := []) (rest := []) (a := 10) (mx := 1) (ci := 6) jF_36_85 kd10 (by decide) rfl rfl rfl rfl rfl (by omega) (by omega) rfl (pc2 := 88) ?_
          have b34 := GI.b g4 10 5 kd10 (lo := 0) (hi := 1600) rfl
          have b35 := GI.b g4 10 6 kd10 (lo := 0) (hi := 1600) rfl
          refine wp_use (m_45_r10 τ3 g4  (by omega) _ _ (by omega) (by omega)) ?_
          rintro _ τ36 ⟨rfl, g37, f38⟩
          show WP 36 88 [(0, .ref 12), (1, .ref 20), (2, iV z18)] [] _ _ _ _
          refine wp_il1 jF_36_88 rfl rfl (pc2 := 89) ?_
          refine wp_ri jF_36_89 rfl ?_
          exact ⟨z18, rfl, ⟨by omega, by omega⟩, g37, (FR.up f5 f38 sb_Wtp_Wtp)⟩
        · intro h33
          clear p28
          refine wp_al1 jF_36_63 rfl rfl (pc2 := 64) ?_
          refine wp_gr (b := 10) jF_36_64 kd12 (by decide) (c := 110) rfl rfl rfl (pc2 := 67) ?_
          refine wp_ic jF_36_67 rfl (pc2 := 68) ?_
          refine wp_al1 jF_36_68 rfl rfl (pc2 := 69) ?_
          refine wp_gr (b := 10) jF_36_69 kd12 (by decide) (c := 110) rfl rfl rfl (pc2 := 72) ?_
          have b39 := GI.b g4 10 2 kd10 (lo := 0) (hi := 1600) rfl
          refine wp_gi jF_36_72 kd10 (by decide) rfl rfl rfl (pc2 := 75) ?_
          refine wp_cV (as := [iV 5, iV (τ3.1 10 2)]) (rest := []) (a := 10) (mx := 3) (ci := 6) jF_36_75 kd10 (by decide) rfl rfl rfl rfl rfl (by omega) (by omega) rfl (pc2 := 78) ?_
          refine wp_use (m_42_r10 τ3 g4 5 (by omega) (by omega) (τ3.1 10 2) (by omega) (by omega)  _ _ (by omega) (by omega)) ?_
          rintro _ τ40 ⟨z43, rfl, h44, g41, f42⟩
          show WP 36 78 [(0, .ref 12), (1, .ref 20), (2, iV z18)] [iV z43] _ _ _ _
          refine wp_pop jF_36_78 rfl rfl (pc2 := 79) ?_
          refine wp_ic jF_36_79 rfl (pc2 := 80) ?_
          refine wp_ri jF_36_80 rfl ?_
          exact ⟨(-1), rfl, ⟨by omega, by omega⟩, g41, (FR.up f5 f42 sb_Wtp_Wtp)⟩
      · intro h27
        refine wp_al1 jF_36_37 rfl rfl (pc2 := 38) ?_
        refine wp_gr (b := 10) jF_36_38 kd12 (by decide) (c := 110) rfl rfl rfl (pc2 := 41) ?_
        refine wp_ic jF_36_41 rfl (pc2 := 42) ?_
        refine wp_al1 jF_36_42 rfl rfl (pc2 := 43) ?_
        refine wp_gr (b := 10) jF_36_43 kd12 (by decide) (c := 110) rfl rfl rfl (pc2 := 46) ?_
        have b45 := GI.b g4 10 2 kd10 (lo := 0) (hi := 1600) rfl
        refine wp_gi jF_36_46 kd10 (by decide) rfl rfl rfl (pc2 := 49) ?_
        refine wp_cV (as := [iV 1, iV (τ3.1 10 2)]) (rest := []) (a := 10) (mx := 3) (ci := 6) jF_36_49 kd10 (by decide) rfl rfl rfl rfl rfl (by omega) (by omega) rfl (pc2 := 52) ?_
        refine wp_use (m_42_r10 τ3 g4 1 (by omega) (by omega) (τ3.1 10 2) (by omega) (by omega)  _ _ (by omega) (by omega)) ?_
        rintro _ τ46 ⟨z49, rfl, h50, g47, f48⟩
        show WP 36 52 [(0, .ref 12), (1, .ref 20), (2, iV z18)] [iV z49] _ _ _ _
        refine wp_pop jF_36_52 rfl rfl (pc2 := 53) ?_
        refine wp_ic jF_36_53 rfl (pc2 := 54) ?_
        refine wp_ri jF_36_54 rfl ?_
        exact ⟨(-1), rfl, ⟨by omega, by omega⟩, g47, (FR.up f5 f48 sb_Wtp_Wtp)⟩
set_option maxHeartbeats 4000000 in
set_option maxRecDepth 20000 in
/-- TongueReader.takesNewWord -/
theorem m_48_r12_20 (σ : jM) (hg : GI σ)   (fr lo : Nat) (hfr : 3 ≤ fr) (hlo : 63 ≤ lo) : WP 48 0 (lv_args 0 [.ref 12, .ref 20]) [] fr lo σ (fun v τ => ∃ z : Int, v = some (iV z) ∧ (0 ≤ z ∧ z ≤ 1) ∧ GI τ ∧ FR Wtp σ τ) := by
  show WP 48 0 [(0, .ref 12), (1, .ref 20)] [] _ _ _ _
  refine wp_al1 jF_48_0 rfl rfl (pc2 := 1) ?_
  refine wp_gr (b := 10) jF_48_1 kd12 (by decide) (c := 110) rfl rfl rfl (pc2 := 4) ?_
  refine wp_al1 jF_48_4 rfl rfl (pc2 := 5) ?_
  refine wp_gr (b := 13) jF_48_5 kd12 (by decide) (c := 113) rfl rfl rfl (pc2 := 8) ?_
  refine wp_cV (as := [.ref 13]) (rest := []) (a := 10) (mx := 2) (ci := 6) jF_48_8 kd10 (by decide) rfl rfl rfl rfl rfl (by omega) (by omega) rfl (pc2 := 11) ?_
  refine wp_use (m_49_r10_13 σ hg   _ _ (by omega) (by omega)) ?_
  rintro _ τ1 ⟨z4, rfl, h5, g2, f3⟩
  show WP 48 11 [(0, .ref 12), (1, .ref 20)] [iV z4] _ _ _ _
  refine wp_z_ne jF_48_11 (m_rgb h5 rfl) rfl (pc2 := 14) ?_ ?_
  · intro h6
    refine wp_al1 jF_48_16 rfl rfl (pc2 := 17) ?_
    refine wp_al1 jF_48_17 rfl rfl (pc2 := 18) ?_
    refine wp_gr (b := 10) jF_48_18 kd12 (by decide) (c := 110) rfl rfl rfl (pc2 := 21) ?_
    have b7 := GI.b g2 10 7 kd10 (lo := (-2147483648)) (hi := 2147483647) rfl
    refine wp_gi jF_48_21 kd10 (by decide) rfl rfl rfl (pc2 := 24) ?_
    refine wp_cV (as := [iV (τ1.1 10 7)]) (rest := []) (a := 20) (mx := 3) (ci := 8) jF_48_24 kd20 (by decide) rfl rfl rfl rfl rfl (by omega) (by omega) rfl (pc2 := 27) ?_
    refine wp_use (m_50_r20 τ1 g2 (τ1.1 10 7) (by omega) (by omega)  _ _ (by omega) (by omega)) ?_
    rintro _ _ ⟨z10, rfl, h11, rfl⟩
    show WP 48 27 [(0, .ref 12), (1, .ref 20)] [iV z10] _ _ _ _
    refine wp_ic jF_48_27 rfl (pc2 := 28) ?_
    refine wp_i_eq jF_48_28 (m_rgb h11 rfl) (m_rgl rfl) rfl (pc2 := 31) ?_ ?_
    · intro h12
      refine wp_ic jF_48_49 rfl (pc2 := 50) ?_
      refine wp_go jF_48_50 ?_
      refine wp_ri jF_48_54 rfl ?_
      exact ⟨1, rfl, ⟨by omega, by omega⟩, g2, f3⟩
    · intro h12
      refine wp_al1 jF_48_31 rfl rfl (pc2 := 32) ?_
      refine wp_gr (b := 10) jF_48_32 kd12 (by decide) (c := 110) rfl rfl rfl (pc2 := 35) ?_
      refine wp_ic jF_48_35 rfl (pc2 := 36) ?_
      refine wp_al1 jF_48_36 rfl rfl (pc2 := 37) ?_
      refine wp_gr (b := 10) jF_48_37 kd12 (by decide) (c := 110) rfl rfl rfl (pc2 := 40) ?_
      have b13 := GI.b g2 10 5 kd10 (lo := 0) (hi := 1600) rfl
      refine wp_gi jF_48_40 kd10 (by decide) rfl rfl rfl (pc2 := 43) ?_
      refine wp_cV (as := [iV 3, iV (τ1.1 10 5)]) (rest := []) (a := 10) (mx := 3) (ci := 6) jF_48_43 kd10 (by decide) rfl rfl rfl rfl rfl (by omega) (by omega) rfl (pc2 := 46) ?_
      refine wp_use (m_42_r10 τ1 g2 3 (by omega) (by omega) (τ1.1 10 5) (by omega) (by omega)  _ _ (by omega) (by omega)) ?_
      rintro _ τ14 ⟨z17, rfl, h18, g15, f16⟩
      show WP 48 46 [(0, .ref 12), (1, .ref 20)] [iV z17] _ _ _ _
      refine wp_z_eq jF_48_46 (m_rgb h18 rfl) rfl (pc2 := 49) ?_ ?_
      · intro h19
        refine wp_ic jF_48_53 rfl (pc2 := 54) ?_
        refine wp_ri jF_48_54 rfl ?_
        exact ⟨0, rfl, ⟨by omega, by omega⟩, g15, (FR.up f3 f16 sb_Wtp_Wtp)⟩
      · intro h19; exfalso; omega
  · intro h6
    refine wp_ic jF_48_14 rfl (pc2 := 15) ?_
    refine wp_ri jF_48_15 rfl ?_
    exact ⟨0, rfl, ⟨by omega, by omega⟩, g2, f3⟩
set_option maxHeartbeats 4000000 in
set_option maxRecDepth 20000 in
/-- TongueReader.takesWordOfSort -/
theorem m_66_r12_20 (σ : jM) (hg : GI σ) (sort : Int) (hl_sort : 0 ≤ sort) (hu_sort : sort ≤ 8)  (fr lo : Nat) (hfr : 4 ≤ fr) (hlo : 84 ≤ lo) : WP 66 0 (lv_args 0 [.ref 12, .ref 20, iV sort]) [] fr lo σ (fun v τ => ∃ z : Int, v = some (iV z) ∧ (0 ≤ z ∧ z ≤ 1) ∧ GI τ ∧ FR WR20 σ τ ∧ ((τ.1 33 5) = (σ.1 33 5)) ∧ ((τ.1 39 5) = (σ.1 39 5))) := by
  show WP 66 0 [(0, .ref 12), (1, .ref 20), (2, iV sort)] [] _ _ _ _
  refine wp_al1 jF_66_0 rfl rfl (pc2 := 1) ?_
  refine wp_al1 jF_66_1 rfl rfl (pc2 := 2) ?_
  refine wp_cV (as := [.ref 20]) (rest := []) (a := 12) (mx := 2) (ci := 9) jF_66_2 kd12 (by decide) rfl rfl rfl rfl rfl (by omega) (by omega) rfl (pc2 := 5) ?_
  refine wp_use (m_48_r12_20 σ hg   _ _ (by omega) (by omega)) ?_
  rintro _ τ1 ⟨z4, rfl, h5, g2, f3⟩
  show WP 66 5 [(0, .ref 12), (1, .ref 20), (2, iV sort)] [iV z4] _ _ _ _
  refine wp_z_ne jF_66_5 (m_rgb h5 rfl) rfl (pc2 := 8) ?_ ?_
  · intro h6
    refine wp_al1 jF_66_10 rfl rfl (pc2 := 11) ?_
    refine wp_il1 jF_66_11 rfl rfl (pc2 := 12) ?_
    refine wp_al1 jF_66_12 rfl rfl (pc2 := 13) ?_
    refine wp_gr (b := 10) jF_66_13 kd12 (by decide) (c := 110) rfl rfl rfl (pc2 := 16) ?_
    have b7 := GI.b g2 10 7 kd10 (lo := (-2147483648)) (hi := 2147483647) rfl
    refine wp_gi jF_66_16 kd10 (by decide) rfl rfl rfl (pc2 := 19) ?_
    refine wp_cV (as := [iV sort, iV (τ1.1 10 7)]) (rest := []) (a := 20) (mx := 3) (ci := 8) jF_66_19 kd20 (by decide) rfl rfl rfl rfl rfl (by omega) (by omega) rfl (pc2 := 22) ?_
    have b8 := GI.b hg 33 5 kd33 (lo := 0) (hi := 16) rfl
    have q9 : (τ1.1 33 5) = (σ.1 33 5) := (FR.at f3 33 5 rfl)
    have b10 := GI.b hg 39 5 kd39 (lo := 0) (hi := 16) rfl
    have q11 : (τ1.1 39 5) = (σ.1 39 5) := (FR.at f3 39 5 rfl)
    refine wp_use (m_67_r20 τ1 g2 sort (by omega) (by omega) (τ1.1 10 7) (by omega) (by omega)  _ _ (by omega) (by omega)) ?_
    rintro _ τ14 ⟨rfl, g15, f16, p12, p13⟩
    show WP 66 22 [(0, .ref 12), (1, .ref 20), (2, iV sort)] [] _ _ _ _
    refine wp_ic jF_66_22 rfl (pc2 := 23) ?_
    refine wp_ri jF_66_23 rfl ?_
    have b17 := GI.b g15 33 5 kd33 (lo := 0) (hi := 16) rfl
    have b18 := GI.b g15 39 5 kd39 (lo := 0) (hi := 16) rfl
    exact ⟨1, rfl, ⟨by omega, by omega⟩, g15, (FR.up (FR.up FR.rf f3 sb_Wtp_WR20) f16 sb_WG20_WR20), (by omega), (by omega)⟩
  · intro h6
    refine wp_ic jF_66_8 rfl (pc2 := 9) ?_
    refine wp_ri jF_66_9 rfl ?_
    have b19 := GI.b hg 33 5 kd33 (lo := 0) (hi := 16) rfl
    have q20 : (τ1.1 33 5) = (σ.1 33 5) := (FR.at f3 33 5 rfl)
    have b21 := GI.b hg 39 5 kd39 (lo := 0) (hi := 16) rfl
    have q22 : (τ1.1 39 5) = (σ.1 39 5) := (FR.at f3 39 5 rfl)
    exact ⟨0, rfl, ⟨by omega, by omega⟩, g2, (FR.up FR.rf f3 sb_Wtp_WR20), (by omega), (by omega)⟩
