set_option maxHeartbeats 4000000 in
set_option maxRecDepth 20000 in
/-- M.undo -/
theorem m_285 (σ : jM) (hg : GI σ)  (pre0 : (kp σ) = 1) (pre1 : (l0 σ) = 22) (fr lo : Nat) (hfr : 0 ≤ fr) (hlo : 0 ≤ lo) : WP 285 0 (lv_args 0 [.ref 117]) [] fr lo σ (fun v τ => ∃ z : Int, v = some (iV z) ∧ (0 ≤ z ∧ z ≤ 1) ∧ GI τ ∧ FR Wundo σ τ ∧ ((l0 τ) = 22) ∧ ((l1 τ) = (l1 σ))) := by
  show WP 285 0 [(0, .ref 117)] [] _ _ _ _
  refine wp_al1 jF_285_0 rfl rfl (pc2 := 1) ?_
  have b1 := GI.b hg 117 52 kd117 (lo := 0) (hi := 20) rfl
  refine wp_gi jF_285_1 kd117 (by decide) rfl rfl rfl (pc2 := 4) ?_
  refine wp_z_ne jF_285_4 (m_rgb b1 rfl) rfl (pc2 := 7) ?_ ?_
  · intro h2
    refine wp_al1 jF_285_19 rfl rfl (pc2 := 20) ?_
    refine wp_gr (b := 148) jF_285_20 kd117 (by decide) (c := 248) rfl rfl rfl (pc2 := 23) ?_
    refine wp_ic jF_285_23 rfl (pc2 := 24) ?_
    refine wp_al1 jF_285_24 rfl rfl (pc2 := 25) ?_
    refine wp_gr (b := 151) jF_285_25 kd117 (by decide) (c := 251) rfl rfl rfl (pc2 := 28) ?_
    refine wp_al1 jF_285_28 rfl rfl (pc2 := 29) ?_
    have b3 := GI.b hg 117 53 kd117 (lo := 0) (hi := 19) rfl
    refine wp_gi jF_285_29 kd117 (by decide) rfl rfl rfl (pc2 := 32) ?_
    have b4 := GI.b hg 151 (σ.1 117 53).toNat kd151 (lo := 0) (hi := 60) rfl
    refine wp_iald (n := 20) (e := (σ.1 151 (σ.1 117 53).toNat)) jF_285_32 kd151 (by decide) rfl rfl (by omega) (by omega) rfl rfl (pc2 := 33) ?_
    refine wp_iast (n := 2) jF_285_33 kd148 (by decide) rfl rfl (by omega) (by omega) rfl (pc2 := 34) hg (lo := 0) (hi := 60) rfl (by omega) (by omega) ?_
    intro τ5 g6 f7 e8
    refine wp_ic jF_285_34 rfl (pc2 := 35) ?_
    refine wp_is1 (lv2 := [(0, .ref 117), (1, iV 0)]) jF_285_35 rfl rfl rfl (pc2 := 36) ?_
    refine wp_loop (α := Int) (fun a => [(0, .ref 117), (1, iV (a))]) (fun a τ => (0 ≤ a ∧ a ≤ 60) ∧ GI τ ∧ FR Wla τ5 τ ∧ ((a) ≤ (τ.1 148 0)) ∧ ((τ.1 148 0) = (σ.1 151 (σ.1 117 53).toNat)) ∧ ((τ.1 148 1) = (σ.1 148 1)) ∧ (CPU σ τ (a)) ∧ ((l1 τ) = (l1 σ))) (fun a τ => Int.toNat (60 - (a))) (0) τ5 ?_ ?_
    · skip
      have q9 : (l1 τ5) = (l1 σ) := (l1_wr f7 (by decide))
      have q10 : (τ5.1 148 0) = (σ.1 151 (σ.1 117 53).toNat) := e8
      have b11 := GI.b hg 148 1 kd148 (lo := 0) (hi := 60) rfl
      have q12 : (τ5.1 148 1) = (σ.1 148 1) := (FRw.nj f7 (by decide))
      exact ⟨⟨by omega, by omega⟩, g6, FR.rf, (by omega), (by omega), (by omega), (Or.inl rfl), (by omega)⟩
    · rintro x13 τ15 ⟨h14, g16, f17, p18, p19, p20, p21, p22⟩ ih23
      have b24 := GI.b g16 148 0 kd148 (lo := 0) (hi := 60) rfl
      have b25 := GI.b g16 148 1 kd148 (lo := 0) (hi := 60) rfl
      show WP 285 36 [(0, .ref 117), (1, iV x13)] [] _ _ _ _
      show WP 285 36 [(0, .ref 117), (1, iV x13)] [] _ _ _ _
      refine wp_il1 jF_285_36 rfl rfl (pc2 := 37) ?_
      refine wp_al1 jF_285_37 rfl rfl (pc2 := 38) ?_
      refine wp_gr (b := 148) jF_285_38 kd117 (by decide) (c := 248) rfl rfl rfl (pc2 := 41) ?_
      refine wp_ic jF_285_41 rfl (pc2 := 42) ?_
      refine wp_iald (n := 2) (e := (τ15.1 148 0)) jF_285_42 kd148 (by decide) rfl rfl (by omega) (by omega) rfl rfl (pc2 := 43) ?_
      refine wp_i_ge jF_285_43 (m_rgb h14 rfl) (m_rgb b24 rfl) rfl (pc2 := 46) ?_ ?_
      · intro h26
        refine wp_al1 jF_285_72 rfl rfl (pc2 := 73) ?_
        refine wp_al1 jF_285_73 rfl rfl (pc2 := 74) ?_
        refine wp_gi jF_285_74 kd117 (by decide) rfl ((FR.at f17 117 53 rfl).trans (FRw.na f7 (by decide))) rfl (pc2 := 77) ?_
        refine wp_bi jF_285_77 (by decide) rfl (pc2 := 79) ?_
        refine wp_add jF_285_79 rfl (pc2 := 80) ?_
        refine wp_ic jF_285_80 rfl (pc2 := 81) ?_
        refine wp_sub jF_285_81 rfl (pc2 := 82) ?_
        refine wp_bi jF_285_82 (by decide) rfl (pc2 := 84) ?_
        refine wp_rem jF_285_84 ⟨by omega, by omega⟩ (by omega) (m_rgl rfl) (by omega) rfl (pc2 := 85) ?_
        refine wp_pi jF_285_85 kd117 (by decide) rfl rfl rfl (pc2 := 88) g16 (lo := 0) (hi := 19) rfl (by omega) (by omega) ?_
        intro τ27 g28 f29 e30
        refine wp_al1 jF_285_88 rfl rfl (pc2 := 89) ?_
        refine wp_dup jF_285_89 rfl rfl (pc2 := 90) ?_
        refine wp_gi jF_285_90 kd117 (by decide) rfl ((FRw.nj f29 (by decide)).trans ((FR.at f17 117 52 rfl).trans (FRw.na f7 (by decide)))) rfl (pc2 := 93) ?_
        refine wp_ic jF_285_93 rfl (pc2 := 94) ?_
        refine wp_sub jF_285_94 rfl (pc2 := 95) ?_
        refine wp_pi jF_285_95 kd117 (by decide) rfl rfl rfl (pc2 := 98) g28 (lo := 0) (hi := 20) rfl (by omega) (by omega) ?_
        intro τ31 g32 f33 e34
        refine wp_ic jF_285_98 rfl (pc2 := 99) ?_
        refine wp_ri jF_285_99 rfl ?_
        have q35 : (l0 τ31) = (l0 τ15) := ((l0_wr f33 (by decide)).trans (l0_wr f29 (by decide)))
        have q36 : (l1 τ31) = (l1 τ15) := ((l1_wr f33 (by decide)).trans (l1_wr f29 (by decide)))
        exact ⟨1, rfl, ⟨by omega, by omega⟩, g32, (FR.w (FR.w (FR.up (FR.w FR.rf f7 rfl) f17 sb_Wla_Wundo) f29 rfl) f33 rfl), (by have e : l0 τ15 = 22 := cpu_end (k := x13) p21 (by omega) (kpf_o (P := KP σ) pre0) (by omega) (by omega) (by omega); omega), (by omega)⟩
      · intro h26
        refine wp_al1 jF_285_46 rfl rfl (pc2 := 47) ?_
        refine wp_gr (b := 147) jF_285_47 kd117 (by decide) (c := 247) rfl rfl rfl (pc2 := 50) ?_
        refine wp_il1 jF_285_50 rfl rfl (pc2 := 51) ?_
        refine wp_al1 jF_285_51 rfl rfl (pc2 := 52) ?_
        refine wp_gr (b := 150) jF_285_52 kd117 (by decide) (c := 250) rfl rfl rfl (pc2 := 55) ?_
        refine wp_bi jF_285_55 (by decide) rfl (pc2 := 57) ?_
        refine wp_al1 jF_285_57 rfl rfl (pc2 := 58) ?_
        refine wp_gi jF_285_58 kd117 (by decide) rfl ((FR.at f17 117 53 rfl).trans (FRw.na f7 (by decide))) rfl (pc2 := 61) ?_
        refine wp_mul jF_285_61 rfl (pc2 := 62) ?_
        refine wp_il1 jF_285_62 rfl rfl (pc2 := 63) ?_
        refine wp_add jF_285_63 rfl (pc2 := 64) ?_
        have b37 := GI.b hg 150 ((64 * (σ.1 117 53)) + x13).toNat kd150 (lo := 0) (hi := 255) rfl
        refine wp_iald (n := 1280) (e := (σ.1 150 ((64 * (σ.1 117 53)) + x13).toNat)) jF_285_64 kd150 (by decide) rfl rfl (by omega) (by omega) ((FR.at f17 150 ((64 * (σ.1 117 53)) + x13).toNat rfl).trans (FRw.na f7 (by decide))) rfl (pc2 := 65) ?_
        refine wp_iast (n := 128) jF_285_65 kd147 (by decide) rfl rfl (by omega) (by omega) rfl (pc2 := 66) g16 (lo := 0) (hi := 255) rfl (by omega) (by omega) ?_
        intro τ38 g39 f40 e41
        refine wp_inc (lv2 := [(0, .ref 117), (1, iV (x13 + 1))]) jF_285_66 rfl rfl rfl rfl (pc2 := 69) ?_
        refine wp_go jF_285_69 ?_
        have q42 : (τ38.1 148 0) = (τ15.1 148 0) := (FRw.na f40 (by decide))
        have q43 : (τ38.1 148 1) = (τ15.1 148 1) := (FRw.na f40 (by decide))
        exact ih23 ((x13 + 1)) τ38 ⟨⟨by omega, by omega⟩, g39, (FR.w f17 f40 rfl), (by omega), (by omega), (by omega), (Or.inr (by have e := e41; rw [show (x13 + 1 - 1 : Int) = x13 by omega]; exact e)), ((l1_w f40 (by omega) (by omega)).trans p22)⟩ (by show Int.toNat (60 - (x13 + 1)) < Int.toNat (60 - x13); omega)
  · intro h2
    refine wp_al1 jF_285_7 rfl rfl (pc2 := 8) ?_
    refine wp_gr (b := 119) jF_285_8 kd117 (by decide) (c := 219) rfl rfl rfl (pc2 := 11) ?_
    refine wp_ic jF_285_11 rfl (pc2 := 12) ?_
    refine wp_du2 jF_285_12 rfl rfl (pc2 := 13) ?_
    have b44 := GI.b hg 119 3 kd119 (lo := (-2147483648)) (hi := 2147483647) rfl
    refine wp_iald (n := 6) (e := (σ.1 119 3)) jF_285_13 kd119 (by decide) rfl rfl (by omega) (by omega) rfl rfl (pc2 := 14) ?_
    refine wp_ic jF_285_14 rfl (pc2 := 15) ?_
    refine wp_any2 (pc2 := 16) jF_285_15 rfl rfl ?_
    intro z45 h46
    refine wp_iast (n := 6) jF_285_16 kd119 (by decide) rfl rfl (by omega) (by omega) rfl (pc2 := 17) hg (lo := (-2147483648)) (hi := 2147483647) rfl (by omega) (by omega) ?_
    intro τ47 g48 f49 e50
    refine wp_ic jF_285_17 rfl (pc2 := 18) ?_
    refine wp_ri jF_285_18 rfl ?_
    have q51 : (l0 τ47) = (l0 σ) := (l0_wr f49 (by decide))
    have q52 : (l1 τ47) = (l1 σ) := (l1_wr f49 (by decide))
    exact ⟨0, rfl, ⟨by omega, by omega⟩, g48, (FR.w FR.rf f49 rfl), (by omega), (by omega)⟩
set_option maxHeartbeats 4000000 in
set_option maxRecDepth 20000 in
/-- M.makes -/
theorem m_287 (σ : jM) (hg : GI σ) (how : Int) (hl_how : 0 ≤ how) (hu_how : how ≤ 2) (place : Int) (hl_place : (-2147483648) ≤ place) (hu_place : place ≤ 2147483647) (sign : Int) (hl_sign : (-2147483648) ≤ sign) (hu_sign : sign ≤ 2147483647) (pre0 : (σ.1 143 4) ≤ 8) (pre1 : (kp σ) = 1) (pre2 : (l0 σ) = 22) (fr lo : Nat) (hfr : 4 ≤ fr) (hlo : 100 ≤ lo) : WP 287 0 (lv_args 0 [.ref 117, iV how, iV place, iV sign]) [] fr lo σ (fun v τ => ∃ z : Int, v = some (iV z) ∧ ((-1) ≤ z ∧ z ≤ 61) ∧ GI τ ∧ FR Wmk σ τ ∧ ((kp τ) = 1) ∧ ((l0 τ) = 22) ∧ ((l1 τ) = (l1 σ))) := by
  show WP 287 0 [(0, .ref 117), (1, iV how), (2, iV place), (3, iV sign)] [] _ _ _ _
  refine wp_al1 jF_287_0 rfl rfl (pc2 := 1) ?_
  refine wp_ic jF_287_1 rfl (pc2 := 2) ?_
  refine wp_il1 jF_287_2 rfl rfl (pc2 := 3) ?_
  refine wp_il1 jF_287_3 rfl rfl (pc2 := 4) ?_
  refine wp_il1 jF_287_4 rfl rfl (pc2 := 5) ?_
  refine wp_cV (as := [iV 0, iV how, iV place, iV sign]) (rest := []) (a := 117) (mx := 5) (ci := 12) jF_287_5 kd117 (by decide) rfl rfl rfl rfl rfl (by omega) (by omega) rfl (pc2 := 8) ?_
  refine wp_use (m_288_0 σ hg how (by omega) (by omega) place (by omega) (by omega) sign (by omega) (by omega)  _ _ (by omega) (by omega)) ?_
  rintro _ τ1 ⟨z4, rfl, h5, g2, f3⟩
  show WP 287 8 [(0, .ref 117), (1, iV how), (2, iV place), (3, iV sign)] [iV z4] _ _ _ _
  refine wp_z_eq jF_287_8 (m_rgb h5 rfl) rfl (pc2 := 11) ?_ ?_
  · intro h6
    refine wp_al1 jF_287_18 rfl rfl (pc2 := 19) ?_
    refine wp_gr (b := 119) jF_287_19 kd117 (by decide) (c := 219) rfl rfl rfl (pc2 := 22) ?_
    refine wp_ic jF_287_22 rfl (pc2 := 23) ?_
    refine wp_du2 jF_287_23 rfl rfl (pc2 := 24) ?_
    have b7 := GI.b hg 119 2 kd119 (lo := (-2147483648)) (hi := 2147483647) rfl
    refine wp_iald (n := 6) (e := (σ.1 119 2)) jF_287_24 kd119 (by decide) rfl rfl (by omega) (by omega) (FR.at f3 119 2 rfl) rfl (pc2 := 25) ?_
    refine wp_ic jF_287_25 rfl (pc2 := 26) ?_
    refine wp_any2 (pc2 := 27) jF_287_26 rfl rfl ?_
    intro z8 h9
    refine wp_iast (n := 6) jF_287_27 kd119 (by decide) rfl rfl (by omega) (by omega) rfl (pc2 := 28) g2 (lo := (-2147483648)) (hi := 2147483647) rfl (by omega) (by omega) ?_
    intro τ10 g11 f12 e13
    refine wp_ic jF_287_28 rfl (pc2 := 29) ?_
    refine wp_ri jF_287_29 rfl ?_
    have q14 : (l0 τ10) = (l0 σ) := ((l0_wr f12 (by decide)).trans (l0_fr f3 rfl (fun _ => rfl)))
    have q15 : (l1 τ10) = (l1 σ) := ((l1_wr f12 (by decide)).trans (l1_fr f3 rfl (fun _ => rfl)))
    have q16 : (kp τ10) = (kp σ) := ((kp_wr f12 (by decide)).trans (kp_fr f3 (fun _ => rfl) (fun _ => rfl)))
    exact ⟨(-1), rfl, ⟨by omega, by omega⟩, g11, (FR.w (FR.up FR.rf f3 sb_Wtr_Wmk) f12 rfl), (by omega), (by omega), (by omega)⟩
  · intro h6
    refine wp_al1 jF_287_11 rfl rfl (pc2 := 12) ?_
    refine wp_cV (as := []) (rest := []) (a := 117) (mx := 1) (ci := 12) jF_287_12 kd117 (by decide) rfl rfl rfl rfl rfl (by omega) (by omega) rfl (pc2 := 15) ?_
    have b17 := GI.b g2 117 49 kd117 (lo := 0) (hi := 61) rfl
    have b18 := GI.b hg 143 4 kd143 (lo := 0) (hi := 16) rfl
    have q19 : (τ1.1 143 4) = (σ.1 143 4) := (FR.at f3 143 4 rfl)
    refine wp_use (m_290 τ1 g2  (by omega) _ _ (by omega) (by omega)) ?_
    rintro _ _ ⟨z23, rfl, h24, rfl, p20⟩
    show WP 287 15 [(0, .ref 117), (1, iV how), (2, iV place), (3, iV sign)] [iV z23] _ _ _ _
    refine wp_z_ne jF_287_15 (m_rgb h24 rfl) rfl (pc2 := 18) ?_ ?_
    · intro h25
      replace p20 := p20 (by omega)
      refine wp_al1 jF_287_30 rfl rfl (pc2 := 31) ?_
      refine wp_cV (as := []) (rest := []) (a := 117) (mx := 2) (ci := 12) jF_287_31 kd117 (by decide) rfl rfl rfl rfl rfl (by omega) (by omega) rfl (pc2 := 34) ?_
      have q26 : (l0 τ1) = (l0 σ) := (l0_fr f3 rfl (fun _ => rfl))
      have q27 : (kp τ1) = (kp σ) := (kp_fr f3 (fun _ => rfl) (fun _ => rfl))
      refine wp_use (m_262 τ1 g2  (by omega) (by omega) _ _ (by omega) (by omega)) ?_
      rintro _ τ29 ⟨rfl, g30, f31, p28⟩
      show WP 287 34 [(0, .ref 117), (1, iV how), (2, iV place), (3, iV sign)] [] _ _ _ _
      refine wp_al1 jF_287_34 rfl rfl (pc2 := 35) ?_
      refine wp_ic jF_287_35 rfl (pc2 := 36) ?_
      refine wp_cV (as := [iV 0]) (rest := []) (a := 117) (mx := 3) (ci := 12) jF_287_36 kd117 (by decide) rfl rfl rfl rfl rfl (by omega) (by omega) rfl (pc2 := 39) ?_
      have q32 : (tl τ29) = (tl τ1) := (tl_fr f31 rfl (fun _ => rfl))
      have q33 : (l1 τ29) = (l1 σ) := ((l1_fr f31 rfl (fun _ => rfl)).trans (l1_fr f3 rfl (fun _ => rfl)))
      have q34 : (τ29.1 117 49) = (τ1.1 117 49) := (FR.at f31 117 49 rfl)
      have b35 := GI.b hg 148 1 kd148 (lo := 0) (hi := 60) rfl
      have q36 : (τ29.1 148 1) = (σ.1 148 1) := ((FR.at f31 148 1 rfl).trans (FR.at f3 148 1 rfl))
      refine wp_use (m_263_0 τ29 g30  (by omega) _ _ (by omega) (by omega)) ?_
      rintro _ τ41 ⟨rfl, g42, f43, p37, p38, p39, p40⟩
      show WP 287 39 [(0, .ref 117), (1, iV how), (2, iV place), (3, iV sign)] [] _ _ _ _
      refine wp_al1 jF_287_39 rfl rfl (pc2 := 40) ?_
      refine wp_cV (as := []) (rest := []) (a := 117) (mx := 3) (ci := 12) jF_287_40 kd117 (by decide) rfl rfl rfl rfl rfl (by omega) (by omega) rfl (pc2 := 43) ?_
      refine wp_use (m_272 τ41 g42   _ _ (by omega) (by omega)) ?_
      rintro _ _ ⟨z46, rfl, h47, rfl⟩
      show WP 287 43 [(0, .ref 117), (1, iV how), (2, iV place), (3, iV sign)] [iV z46] _ _ _ _
      refine wp_ri jF_287_43 rfl ?_
      have q48 : (kp τ41) = (kp τ29) := (kp_fr f43 (fun _ => rfl) (fun _ => rfl))
      exact ⟨z46, rfl, ⟨by omega, by omega⟩, g42, (FR.up (FR.up (FR.up FR.rf f3 sb_Wtr_Wmk) f31 sb_Wkeep_Wmk) f43 sb_Wla_Wmk), (by omega), (by omega), (by omega)⟩
    · intro h25
      clear p20
      refine wp_al1 jF_287_18 rfl rfl (pc2 := 19) ?_
      refine wp_gr (b := 119) jF_287_19 kd117 (by decide) (c := 219) rfl rfl rfl (pc2 := 22) ?_
      refine wp_ic jF_287_22 rfl (pc2 := 23) ?_
      refine wp_du2 jF_287_23 rfl rfl (pc2 := 24) ?_
      have b49 := GI.b hg 119 2 kd119 (lo := (-2147483648)) (hi := 2147483647) rfl
      refine wp_iald (n := 6) (e := (σ.1 119 2)) jF_287_24 kd119 (by decide) rfl rfl (by omega) (by omega) (FR.at f3 119 2 rfl) rfl (pc2 := 25) ?_
      refine wp_ic jF_287_25 rfl (pc2 := 26) ?_
      refine wp_any2 (pc2 := 27) jF_287_26 rfl rfl ?_
      intro z50 h51
      refine wp_iast (n := 6) jF_287_27 kd119 (by decide) rfl rfl (by omega) (by omega) rfl (pc2 := 28) g2 (lo := (-2147483648)) (hi := 2147483647) rfl (by omega) (by omega) ?_
      intro τ52 g53 f54 e55
      refine wp_ic jF_287_28 rfl (pc2 := 29) ?_
      refine wp_ri jF_287_29 rfl ?_
      have q56 : (l0 τ52) = (l0 σ) := ((l0_wr f54 (by decide)).trans (l0_fr f3 rfl (fun _ => rfl)))
      have q57 : (l1 τ52) = (l1 σ) := ((l1_wr f54 (by decide)).trans (l1_fr f3 rfl (fun _ => rfl)))
      have q58 : (kp τ52) = (kp σ) := ((kp_wr f54 (by decide)).trans (kp_fr f3 (fun _ => rfl) (fun _ => rfl)))
      exact ⟨(-1), rfl, ⟨by omega, by omega⟩, g53, (FR.w (FR.up FR.rf f3 sb_Wtr_Wmk) f54 rfl), (by omega), (by omega), (by omega)⟩
set_option maxHeartbeats 4000000 in
set_option maxRecDepth 20000 in
/-- M.put -/
theorem m_286 (σ : jM) (hg : GI σ) (place : Int) (hl_place : (-2147483648) ≤ place) (hu_place : place ≤ 2147483647) (sign : Int) (hl_sign : (-2147483648) ≤ sign) (hu_sign : sign ≤ 2147483647) (pre0 : (σ.1 143 4) ≤ 8) (pre1 : (kp σ) = 1) (pre2 : (l0 σ) = 22) (fr lo : Nat) (hfr : 5 ≤ fr) (hlo : 123 ≤ lo) : WP 286 0 (lv_args 0 [.ref 117, iV place, iV sign]) [] fr lo σ (fun v τ => ∃ z : Int, v = some (iV z) ∧ ((-1) ≤ z ∧ z ≤ 61) ∧ GI τ ∧ FR Wmk σ τ ∧ ((kp τ) = 1) ∧ ((l0 τ) = 22) ∧ ((l1 τ) = (l1 σ))) := by
  show WP 286 0 [(0, .ref 117), (1, iV place), (2, iV sign)] [] _ _ _ _
  refine wp_al1 jF_286_0 rfl rfl (pc2 := 1) ?_
  refine wp_ic jF_286_1 rfl (pc2 := 2) ?_
  refine wp_il1 jF_286_2 rfl rfl (pc2 := 3) ?_
  refine wp_il1 jF_286_3 rfl rfl (pc2 := 4) ?_
  refine wp_cV (as := [iV 0, iV place, iV sign]) (rest := []) (a := 117) (mx := 4) (ci := 12) jF_286_4 kd117 (by decide) rfl rfl rfl rfl rfl (by omega) (by omega) rfl (pc2 := 7) ?_
  have b1 := GI.b hg 143 4 kd143 (lo := 0) (hi := 16) rfl
  refine wp_use (m_287 σ hg 0 (by omega) (by omega) place (by omega) (by omega) sign (by omega) (by omega) (by omega) (by omega) (by omega) _ _ (by omega) (by omega)) ?_
  rintro _ τ5 ⟨z8, rfl, h9, g6, f7, p2, p3, p4⟩
  show WP 286 7 [(0, .ref 117), (1, iV place), (2, iV sign)] [iV z8] _ _ _ _
  refine wp_ri jF_286_7 rfl ?_
  exact ⟨z8, rfl, ⟨by omega, by omega⟩, g6, f7, (by omega), (by omega), (by omega)⟩
set_option maxHeartbeats 4000000 in
set_option maxRecDepth 20000 in
/-- M.swap -/
theorem m_292 (σ : jM) (hg : GI σ) (place : Int) (hl_place : (-2147483648) ≤ place) (hu_place : place ≤ 2147483647) (sign : Int) (hl_sign : (-2147483648) ≤ sign) (hu_sign : sign ≤ 2147483647) (pre0 : (σ.1 143 4) ≤ 8) (pre1 : (kp σ) = 1) (pre2 : (l0 σ) = 22) (fr lo : Nat) (hfr : 5 ≤ fr) (hlo : 123 ≤ lo) : WP 292 0 (lv_args 0 [.ref 117, iV place, iV sign]) [] fr lo σ (fun v τ => ∃ z : Int, v = some (iV z) ∧ ((-1) ≤ z ∧ z ≤ 61) ∧ GI τ ∧ FR Wmk σ τ ∧ ((kp τ) = 1) ∧ ((l0 τ) = 22) ∧ ((l1 τ) = (l1 σ))) := by
  show WP 292 0 [(0, .ref 117), (1, iV place), (2, iV sign)] [] _ _ _ _
  refine wp_al1 jF_292_0 rfl rfl (pc2 := 1) ?_
  refine wp_ic jF_292_1 rfl (pc2 := 2) ?_
  refine wp_il1 jF_292_2 rfl rfl (pc2 := 3) ?_
  refine wp_il1 jF_292_3 rfl rfl (pc2 := 4) ?_
  refine wp_cV (as := [iV 2, iV place, iV sign]) (rest := []) (a := 117) (mx := 4) (ci := 12) jF_292_4 kd117 (by decide) rfl rfl rfl rfl rfl (by omega) (by omega) rfl (pc2 := 7) ?_
  have b1 := GI.b hg 143 4 kd143 (lo := 0) (hi := 16) rfl
  refine wp_use (m_287 σ hg 2 (by omega) (by omega) place (by omega) (by omega) sign (by omega) (by omega) (by omega) (by omega) (by omega) _ _ (by omega) (by omega)) ?_
  rintro _ τ5 ⟨z8, rfl, h9, g6, f7, p2, p3, p4⟩
  show WP 292 7 [(0, .ref 117), (1, iV place), (2, iV sign)] [iV z8] _ _ _ _
  refine wp_ri jF_292_7 rfl ?_
  exact ⟨z8, rfl, ⟨by omega, by omega⟩, g6, f7, (by omega), (by omega), (by omega)⟩
set_option maxHeartbeats 4000000 in
set_option maxRecDepth 20000 in
/-- M.strike -/
theorem m_291 (σ : jM) (hg : GI σ) (place : Int) (hl_place : (-2147483648) ≤ place) (hu_place : place ≤ 2147483647) (pre0 : (σ.1 143 4) ≤ 8) (pre1 : (kp σ) = 1) (pre2 : (l0 σ) = 22) (fr lo : Nat) (hfr : 5 ≤ fr) (hlo : 123 ≤ lo) : WP 291 0 (lv_args 0 [.ref 117, iV place]) [] fr lo σ (fun v τ => ∃ z : Int, v = some (iV z) ∧ ((-1) ≤ z ∧ z ≤ 61) ∧ GI τ ∧ FR Wmk σ τ ∧ ((kp τ) = 1) ∧ ((l0 τ) = 22) ∧ ((l1 τ) = (l1 σ))) := by
  show WP 291 0 [(0, .ref 117), (1, iV place)] [] _ _ _ _
  refine wp_al1 jF_291_0 rfl rfl (pc2 := 1) ?_
  refine wp_ic jF_291_1 rfl (pc2 := 2) ?_
  refine wp_il1 jF_291_2 rfl rfl (pc2 := 3) ?_
  refine wp_ic jF_291_3 rfl (pc2 := 4) ?_
  refine wp_cV (as := [iV 1, iV place, iV 0]) (rest := []) (a := 117) (mx := 4) (ci := 12) jF_291_4 kd117 (by decide) rfl rfl rfl rfl rfl (by omega) (by omega) rfl (pc2 := 7) ?_
  have b1 := GI.b hg 143 4 kd143 (lo := 0) (hi := 16) rfl
  refine wp_use (m_287 σ hg 1 (by omega) (by omega) place (by omega) (by omega) 0 (by omega) (by omega) (by omega) (by omega) (by omega) _ _ (by omega) (by omega)) ?_
  rintro _ τ5 ⟨z8, rfl, h9, g6, f7, p2, p3, p4⟩
  show WP 291 7 [(0, .ref 117), (1, iV place)] [iV z8] _ _ _ _
  refine wp_ri jF_291_7 rfl ?_
  exact ⟨z8, rfl, ⟨by omega, by omega⟩, g6, f7, (by omega), (by omega), (by omega)⟩
set_option maxHeartbeats 4000000 in
set_option maxRecDepth 20000 in
/-- M.changes -/
theorem m_293 (σ : jM) (hg : GI σ) (what : Int) (hl_what : (-2147483648) ≤ what) (hu_what : what ≤ 2147483647) (pre0 : (σ.1 143 4) ≤ 8) (fr lo : Nat) (hfr : 4 ≤ fr) (hlo : 100 ≤ lo) : WP 293 0 (lv_args 0 [.ref 117, iV what]) [] fr lo σ (fun v τ => ∃ z : Int, v = some (iV z) ∧ ((-1) ≤ z ∧ z ≤ 2000) ∧ GI τ ∧ FR Wtr σ τ) := by
  show WP 293 0 [(0, .ref 117), (1, iV what)] [] _ _ _ _
  refine wp_il1 jF_293_0 rfl rfl (pc2 := 1) ?_
  refine wp_i2l jF_293_1 rfl (pc2 := 2) ?_
  refine wp_lc jF_293_2 rfl (pc2 := 3) ?_
  refine wp_ld jF_293_3 rfl (pc2 := 6) ?_
  refine wp_cS (as := [.long (Int32.toInt64 (Int32.ofInt what)), .long (Int64.ofNat 0), .long (2)]) (rest := []) (mx := 6) jF_293_6 rfl rfl rfl rfl (by omega) (by omega) rfl (pc2 := 9) ?_
  show WP 232 0 [(0, .long (Int32.toInt64 (Int32.ofInt what))), (2, .long (Int64.ofNat 0)), (4, .long (2))] [] _ _ _ _
  refine wp_ll1 jF_232_0 rfl rfl (pc2 := 1) ?_
  refine wp_ll1 jF_232_1 rfl rfl (pc2 := 2) ?_
  refine wp_lcmp2 (a := what) (b := 0) jF_232_2 (m_i2lt ⟨by omega, by omega⟩) (by decide) rfl (pc2 := 3) ?_
  intro z1 h2
  refine wp_z_lt jF_232_3 ⟨by omega, by omega⟩ rfl (pc2 := 6) ?_ ?_
  · intro h3
    refine wp_ic jF_232_17 rfl (pc2 := 18) ?_
    refine wp_ri jF_232_18 rfl ?_
    show WP 293 9 [(0, .ref 117), (1, iV what)] [iV 0] _ _ _ _
    refine wp_z_ne jF_293_9 (m_rgl rfl) rfl (pc2 := 12) ?_ ?_
    · intro h4; exfalso; omega
    · intro h4
      refine wp_ic jF_293_12 rfl (pc2 := 13) ?_
      refine wp_ri jF_293_13 rfl ?_
      exact ⟨(-1), rfl, ⟨by omega, by omega⟩, hg, FR.rf⟩
  · intro h3
    refine wp_ll1 jF_232_6 rfl rfl (pc2 := 7) ?_
    refine wp_ll2 jF_232_7 rfl rfl (pc2 := 9) ?_
    refine wp_lcmp2 (a := what) (b := 2) jF_232_9 (m_i2lt ⟨by omega, by omega⟩) (by decide) rfl (pc2 := 10) ?_
    intro z5 h6
    refine wp_z_gt jF_232_10 ⟨by omega, by omega⟩ rfl (pc2 := 13) ?_ ?_
    · intro h7
      refine wp_ic jF_232_17 rfl (pc2 := 18) ?_
      refine wp_ri jF_232_18 rfl ?_
      show WP 293 9 [(0, .ref 117), (1, iV what)] [iV 0] _ _ _ _
      refine wp_z_ne jF_293_9 (m_rgl rfl) rfl (pc2 := 12) ?_ ?_
      · intro h8; exfalso; omega
      · intro h8
        refine wp_ic jF_293_12 rfl (pc2 := 13) ?_
        refine wp_ri jF_293_13 rfl ?_
        exact ⟨(-1), rfl, ⟨by omega, by omega⟩, hg, FR.rf⟩
    · intro h7
      refine wp_ic jF_232_13 rfl (pc2 := 14) ?_
      refine wp_go jF_232_14 ?_
      refine wp_ri jF_232_18 rfl ?_
      show WP 293 9 [(0, .ref 117), (1, iV what)] [iV 1] _ _ _ _
      refine wp_z_ne jF_293_9 (m_rgl rfl) rfl (pc2 := 12) ?_ ?_
      · intro h9
        refine wp_ic jF_293_14 rfl (pc2 := 15) ?_
        refine wp_is1 (lv2 := [(0, .ref 117), (1, iV what), (2, iV 0)]) jF_293_15 rfl rfl rfl (pc2 := 16) ?_
        refine wp_ic jF_293_16 rfl (pc2 := 17) ?_
        refine wp_is1 (lv2 := [(0, .ref 117), (1, iV what), (2, iV 0), (3, iV 0)]) jF_293_17 rfl rfl rfl (pc2 := 18) ?_
        refine wp_loop (α := Int × Int) (fun a => [(0, .ref 117), (1, iV what), (2, iV (a.1)), (3, iV (a.2))]) (fun a τ => (0 ≤ a.1 ∧ a.1 ≤ 2000) ∧ (0 ≤ a.2 ∧ a.2 ≤ 61) ∧ GI τ ∧ FR Wtr σ τ ∧ ((a.1) ≤ 24 * (a.2))) (fun a τ => Int.toNat (61 - (a.2))) (0, 0) σ ?_ ?_
        · skip
          exact ⟨⟨by (try dsimp only); omega, by (try dsimp only); omega⟩, ⟨by (try dsimp only); omega, by (try dsimp only); omega⟩, hg, FR.rf, (by (try dsimp only); omega)⟩
        · rintro ⟨x10, x11⟩ τ14 ⟨h12, h13, g15, f16, p17⟩ ih18
          try dsimp only at h12 h13 g15 f16 p17
          show WP 293 18 [(0, .ref 117), (1, iV what), (2, iV x10), (3, iV x11)] [] _ _ _ _
          show WP 293 18 [(0, .ref 117), (1, iV what), (2, iV x10), (3, iV x11)] [] _ _ _ _
          refine wp_il1 jF_293_18 rfl rfl (pc2 := 19) ?_
          refine wp_al1 jF_293_19 rfl rfl (pc2 := 20) ?_
          refine wp_gr (b := 148) jF_293_20 kd117 (by decide) (c := 248) rfl rfl rfl (pc2 := 23) ?_
          refine wp_ic jF_293_23 rfl (pc2 := 24) ?_
          have b19 := GI.b hg 148 0 kd148 (lo := 0) (hi := 60) rfl
          refine wp_iald (n := 2) (e := (σ.1 148 0)) jF_293_24 kd148 (by decide) rfl rfl (by omega) (by omega) (FR.at f16 148 0 rfl) rfl (pc2 := 25) ?_
          refine wp_i_gt jF_293_25 (m_rgb h13 rfl) (m_rgb b19 rfl) rfl (pc2 := 28) ?_ ?_
          · intro h20
            refine wp_il1 jF_293_81 rfl rfl (pc2 := 82) ?_
            refine wp_ri jF_293_82 rfl ?_
            exact ⟨x10, rfl, ⟨by omega, by omega⟩, g15, f16⟩
          · intro h20
            refine wp_ic jF_293_28 rfl (pc2 := 29) ?_
            refine wp_is2 (lv2 := [(0, .ref 117), (1, iV what), (2, iV x10), (3, iV x11), (4, iV 0)]) jF_293_29 rfl rfl rfl (pc2 := 31) ?_
            refine wp_loop (α := Int × Int) (fun a => [(0, .ref 117), (1, iV what), (2, iV (a.1)), (3, iV x11), (4, iV (a.2))]) (fun a τ => (0 ≤ a.1 ∧ a.1 ≤ 2000) ∧ (0 ≤ a.2 ∧ a.2 ≤ 23) ∧ GI τ ∧ FR Wtr τ14 τ ∧ ((a.1) ≤ 24 * x11 + (a.2))) (fun a τ => Int.toNat (23 - (a.2))) (x10, 0) τ14 ?_ ?_
            · skip
              exact ⟨⟨by (try dsimp only); omega, by (try dsimp only); omega⟩, ⟨by (try dsimp only); omega, by (try dsimp only); omega⟩, g15, FR.rf, (by (try dsimp only); omega)⟩
            · rintro ⟨x21, x22⟩ τ25 ⟨h23, h24, g26, f27, p28⟩ ih29
              try dsimp only at h23 h24 g26 f27 p28
              show WP 293 31 [(0, .ref 117), (1, iV what), (2, iV x21), (3, iV x11), (4, iV x22)] [] _ _ _ _
              show WP 293 31 [(0, .ref 117), (1, iV what), (2, iV x21), (3, iV x11), (4, iV x22)] [] _ _ _ _
              refine wp_il2 jF_293_31 rfl rfl (pc2 := 33) ?_
              refine wp_il1 jF_293_33 rfl rfl (pc2 := 34) ?_
              refine wp_ic jF_293_34 rfl (pc2 := 35) ?_
              refine wp_i_ne jF_293_35 ⟨by omega, by omega⟩ (m_rgl rfl) rfl (pc2 := 38) ?_ ?_
              · intro h30
                refine wp_bi jF_293_42 (by decide) rfl (pc2 := 44) ?_
                refine wp_i_ge jF_293_44 (m_rgb h24 rfl) (m_rgl rfl) rfl (pc2 := 47) ?_ ?_
                · intro h31
                  refine wp_inc (lv2 := [(0, .ref 117), (1, iV what), (2, iV x21), (3, iV (x11 + 1)), (4, iV x22)]) jF_293_75 rfl rfl rfl rfl (pc2 := 78) ?_
                  refine wp_go jF_293_78 ?_
                  refine wp_less [0, 1, 2, 3] (lv2 := [(0, .ref 117), (1, iV what), (2, iV x21), (3, iV (x11 + 1))]) rfl rfl ?_
                  exact ih18 (x21, (x11 + 1)) τ25 ⟨⟨by (try dsimp only); omega, by (try dsimp only); omega⟩, ⟨by (try dsimp only); omega, by (try dsimp only); omega⟩, g26, (FR.up f16 f27 sb_Wtr_Wtr), (by (try dsimp only); omega)⟩ (by show Int.toNat (61 - (x11 + 1)) < Int.toNat (61 - x11); omega)
                · intro h31
                  refine wp_al1 jF_293_47 rfl rfl (pc2 := 48) ?_
                  refine wp_ic jF_293_48 rfl (pc2 := 49) ?_
                  refine wp_il1 jF_293_49 rfl rfl (pc2 := 50) ?_
                  refine wp_il1 jF_293_50 rfl rfl (pc2 := 51) ?_
                  refine wp_il2 jF_293_51 rfl rfl (pc2 := 53) ?_
                  refine wp_cV (as := [iV 0, iV what, iV x11, iV x22]) (rest := []) (a := 117) (mx := 5) (ci := 12) jF_293_53 kd117 (by decide) rfl rfl rfl rfl rfl (by omega) (by omega) rfl (pc2 := 56) ?_
                  refine wp_use (m_288_0 τ25 g26 what (by omega) (by omega) x11 (by omega) (by omega) x22 (by omega) (by omega)  _ _ (by omega) (by omega)) ?_
                  rintro _ τ32 ⟨z35, rfl, h36, g33, f34⟩
                  show WP 293 56 [(0, .ref 117), (1, iV what), (2, iV x21), (3, iV x11), (4, iV x22)] [iV z35] _ _ _ _
                  refine wp_z_eq jF_293_56 (m_rgb h36 rfl) rfl (pc2 := 59) ?_ ?_
                  · intro h37
                    refine wp_inc (lv2 := [(0, .ref 117), (1, iV what), (2, iV x21), (3, iV x11), (4, iV (x22 + 1))]) jF_293_69 rfl rfl rfl rfl (pc2 := 72) ?_
                    refine wp_go jF_293_72 ?_
                    exact ih29 (x21, (x22 + 1)) τ32 ⟨⟨by (try dsimp only); omega, by (try dsimp only); omega⟩, ⟨by (try dsimp only); omega, by (try dsimp only); omega⟩, g33, (FR.up f27 f34 sb_Wtr_Wtr), (by (try dsimp only); omega)⟩ (by show Int.toNat (23 - (x22 + 1)) < Int.toNat (23 - x22); omega)
                  · intro h37
                    refine wp_al1 jF_293_59 rfl rfl (pc2 := 60) ?_
                    refine wp_cV (as := []) (rest := []) (a := 117) (mx := 1) (ci := 12) jF_293_60 kd117 (by decide) rfl rfl rfl rfl rfl (by omega) (by omega) rfl (pc2 := 63) ?_
                    have b38 := GI.b g33 117 49 kd117 (lo := 0) (hi := 61) rfl
                    have b39 := GI.b hg 143 4 kd143 (lo := 0) (hi := 16) rfl
                    have q40 : (τ32.1 143 4) = (σ.1 143 4) := ((FR.at f34 143 4 rfl).trans ((FR.at f27 143 4 rfl).trans (FR.at f16 143 4 rfl)))
                    refine wp_use (m_290 τ32 g33  (by omega) _ _ (by omega) (by omega)) ?_
                    rintro _ _ ⟨z44, rfl, h45, rfl, p41⟩
                    show WP 293 63 [(0, .ref 117), (1, iV what), (2, iV x21), (3, iV x11), (4, iV x22)] [iV z44] _ _ _ _
                    refine wp_z_eq jF_293_63 (m_rgb h45 rfl) rfl (pc2 := 66) ?_ ?_
                    · intro h46
                      clear p41
                      refine wp_inc (lv2 := [(0, .ref 117), (1, iV what), (2, iV x21), (3, iV x11), (4, iV (x22 + 1))]) jF_293_69 rfl rfl rfl rfl (pc2 := 72) ?_
                      refine wp_go jF_293_72 ?_
                      exact ih29 (x21, (x22 + 1)) τ32 ⟨⟨by (try dsimp only); omega, by (try dsimp only); omega⟩, ⟨by (try dsimp only); omega, by (try dsimp only); omega⟩, g33, (FR.up f27 f34 sb_Wtr_Wtr), (by (try dsimp only); omega)⟩ (by show Int.toNat (23 - (x22 + 1)) < Int.toNat (23 - x22); omega)
                    · intro h46
                      replace p41 := p41 (by omega)
                      refine wp_inc (lv2 := [(0, .ref 117), (1, iV what), (2, iV (x21 + 1)), (3, iV x11), (4, iV x22)]) jF_293_66 rfl rfl rfl rfl (pc2 := 69) ?_
                      refine wp_inc (lv2 := [(0, .ref 117), (1, iV what), (2, iV (x21 + 1)), (3, iV x11), (4, iV (x22 + 1))]) jF_293_69 rfl rfl rfl rfl (pc2 := 72) ?_
                      refine wp_go jF_293_72 ?_
                      exact ih29 ((x21 + 1), (x22 + 1)) τ32 ⟨⟨by (try dsimp only); omega, by (try dsimp only); omega⟩, ⟨by (try dsimp only); omega, by (try dsimp only); omega⟩, g33, (FR.up f27 f34 sb_Wtr_Wtr), (by (try dsimp only); omega)⟩ (by show Int.toNat (23 - (x22 + 1)) < Int.toNat (23 - x22); omega)
              · intro h30
                refine wp_ic jF_293_38 rfl (pc2 := 39) ?_
                refine wp_go jF_293_39 ?_
                refine wp_i_ge jF_293_44 (m_rgb h24 rfl) (m_rgl rfl) rfl (pc2 := 47) ?_ ?_
                · intro h47
                  refine wp_inc (lv2 := [(0, .ref 117), (1, iV what), (2, iV x21), (3, iV (x11 + 1)), (4, iV x22)]) jF_293_75 rfl rfl rfl rfl (pc2 := 78) ?_
                  refine wp_go jF_293_78 ?_
                  refine wp_less [0, 1, 2, 3] (lv2 := [(0, .ref 117), (1, iV what), (2, iV x21), (3, iV (x11 + 1))]) rfl rfl ?_
                  exact ih18 (x21, (x11 + 1)) τ25 ⟨⟨by (try dsimp only); omega, by (try dsimp only); omega⟩, ⟨by (try dsimp only); omega, by (try dsimp only); omega⟩, g26, (FR.up f16 f27 sb_Wtr_Wtr), (by (try dsimp only); omega)⟩ (by show Int.toNat (61 - (x11 + 1)) < Int.toNat (61 - x11); omega)
                · intro h47
                  refine wp_al1 jF_293_47 rfl rfl (pc2 := 48) ?_
                  refine wp_ic jF_293_48 rfl (pc2 := 49) ?_
                  refine wp_il1 jF_293_49 rfl rfl (pc2 := 50) ?_
                  refine wp_il1 jF_293_50 rfl rfl (pc2 := 51) ?_
                  refine wp_il2 jF_293_51 rfl rfl (pc2 := 53) ?_
                  refine wp_cV (as := [iV 0, iV what, iV x11, iV x22]) (rest := []) (a := 117) (mx := 5) (ci := 12) jF_293_53 kd117 (by decide) rfl rfl rfl rfl rfl (by omega) (by omega) rfl (pc2 := 56) ?_
                  refine wp_use (m_288_0 τ25 g26 what (by omega) (by omega) x11 (by omega) (by omega) x22 (by omega) (by omega)  _ _ (by omega) (by omega)) ?_
                  rintro _ τ48 ⟨z51, rfl, h52, g49, f50⟩
                  show WP 293 56 [(0, .ref 117), (1, iV what), (2, iV x21), (3, iV x11), (4, iV x22)] [iV z51] _ _ _ _
                  refine wp_z_eq jF_293_56 (m_rgb h52 rfl) rfl (pc2 := 59) ?_ ?_
                  · intro h53
                    refine wp_inc (lv2 := [(0, .ref 117), (1, iV what), (2, iV x21), (3, iV x11), (4, iV (x22 + 1))]) jF_293_69 rfl rfl rfl rfl (pc2 := 72) ?_
                    refine wp_go jF_293_72 ?_
                    exact ih29 (x21, (x22 + 1)) τ48 ⟨⟨by (try dsimp only); omega, by (try dsimp only); omega⟩, ⟨by (try dsimp only); omega, by (try dsimp only); omega⟩, g49, (FR.up f27 f50 sb_Wtr_Wtr), (by (try dsimp only); omega)⟩ (by show Int.toNat (23 - (x22 + 1)) < Int.toNat (23 - x22); omega)
                  · intro h53
                    refine wp_al1 jF_293_59 rfl rfl (pc2 := 60) ?_
                    refine wp_cV (as := []) (rest := []) (a := 117) (mx := 1) (ci := 12) jF_293_60 kd117 (by decide) rfl rfl rfl rfl rfl (by omega) (by omega) rfl (pc2 := 63) ?_
                    have b54 := GI.b g49 117 49 kd117 (lo := 0) (hi := 61) rfl
                    have b55 := GI.b hg 143 4 kd143 (lo := 0) (hi := 16) rfl
                    have q56 : (τ48.1 143 4) = (σ.1 143 4) := ((FR.at f50 143 4 rfl).trans ((FR.at f27 143 4 rfl).trans (FR.at f16 143 4 rfl)))
                    refine wp_use (m_290 τ48 g49  (by omega) _ _ (by omega) (by omega)) ?_
                    rintro _ _ ⟨z60, rfl, h61, rfl, p57⟩
                    show WP 293 63 [(0, .ref 117), (1, iV what), (2, iV x21), (3, iV x11), (4, iV x22)] [iV z60] _ _ _ _
                    refine wp_z_eq jF_293_63 (m_rgb h61 rfl) rfl (pc2 := 66) ?_ ?_
                    · intro h62
                      clear p57
                      refine wp_inc (lv2 := [(0, .ref 117), (1, iV what), (2, iV x21), (3, iV x11), (4, iV (x22 + 1))]) jF_293_69 rfl rfl rfl rfl (pc2 := 72) ?_
                      refine wp_go jF_293_72 ?_
                      exact ih29 (x21, (x22 + 1)) τ48 ⟨⟨by (try dsimp only); omega, by (try dsimp only); omega⟩, ⟨by (try dsimp only); omega, by (try dsimp only); omega⟩, g49, (FR.up f27 f50 sb_Wtr_Wtr), (by (try dsimp only); omega)⟩ (by show Int.toNat (23 - (x22 + 1)) < Int.toNat (23 - x22); omega)
                    · intro h62
                      replace p57 := p57 (by omega)
                      refine wp_inc (lv2 := [(0, .ref 117), (1, iV what), (2, iV (x21 + 1)), (3, iV x11), (4, iV x22)]) jF_293_66 rfl rfl rfl rfl (pc2 := 69) ?_
                      refine wp_inc (lv2 := [(0, .ref 117), (1, iV what), (2, iV (x21 + 1)), (3, iV x11), (4, iV (x22 + 1))]) jF_293_69 rfl rfl rfl rfl (pc2 := 72) ?_
                      refine wp_go jF_293_72 ?_
                      exact ih29 ((x21 + 1), (x22 + 1)) τ48 ⟨⟨by (try dsimp only); omega, by (try dsimp only); omega⟩, ⟨by (try dsimp only); omega, by (try dsimp only); omega⟩, g49, (FR.up f27 f50 sb_Wtr_Wtr), (by (try dsimp only); omega)⟩ (by show Int.toNat (23 - (x22 + 1)) < Int.toNat (23 - x22); omega)
      · intro h9; exfalso; omega
