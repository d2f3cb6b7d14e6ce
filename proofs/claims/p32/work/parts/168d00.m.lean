set_option maxHeartbeats 4000000 in
set_option maxRecDepth 20000 in
/-- X.refuse -/
theorem m_25_r9 (σ : jM) (hg : GI σ) (what : Int) (hl_what : 0 ≤ what) (hu_what : what ≤ 5)  (fr lo : Nat) (hfr : 0 ≤ fr) (hlo : 0 ≤ lo) : WP 25 0 (lv_args 0 [.ref 9, iV what]) [] fr lo σ (fun v τ => ∃ z : Int, v = some (iV z) ∧ ((-1) ≤ z ∧ z ≤ (-1)) ∧ GI τ ∧ FR WXr σ τ) := by
  show WP 25 0 [(0, .ref 9), (1, iV what)] [] _ _ _ _
  refine wp_il1 jF_25_0 rfl rfl (pc2 := 1) ?_
  refine wp_z_lt jF_25_1 ⟨by omega, by omega⟩ rfl (pc2 := 4) ?_ ?_
  · intro h1; exfalso; omega
  · intro h1
    refine wp_il1 jF_25_4 rfl rfl (pc2 := 5) ?_
    refine wp_al1 jF_25_5 rfl rfl (pc2 := 6) ?_
    refine wp_gr (b := 116) jF_25_6 kd9 (by decide) (c := 216) rfl rfl rfl (pc2 := 9) ?_
    refine wp_len (n := 6) (t := 0) jF_25_9 kd116 (by decide) rfl rfl (pc2 := 10) ?_
    refine wp_i_ge jF_25_10 ⟨by omega, by omega⟩ (m_rgl rfl) rfl (pc2 := 13) ?_ ?_
    · intro h2; exfalso; omega
    · intro h2
      refine wp_al1 jF_25_13 rfl rfl (pc2 := 14) ?_
      refine wp_gr (b := 116) jF_25_14 kd9 (by decide) (c := 216) rfl rfl rfl (pc2 := 17) ?_
      refine wp_il1 jF_25_17 rfl rfl (pc2 := 18) ?_
      refine wp_du2 jF_25_18 rfl rfl (pc2 := 19) ?_
      have b3 := GI.b hg 116 what.toNat kd116 (lo := (-2147483648)) (hi := 2147483647) rfl
      refine wp_iald (n := 6) (e := (σ.1 116 what.toNat)) jF_25_19 kd116 (by decide) rfl rfl (by omega) (by omega) rfl rfl (pc2 := 20) ?_
      refine wp_ic jF_25_20 rfl (pc2 := 21) ?_
      refine wp_any2 (pc2 := 22) jF_25_21 rfl rfl ?_
      intro z4 h5
      refine wp_iast (n := 6) jF_25_22 kd116 (by decide) rfl rfl (by omega) (by omega) rfl (pc2 := 23) hg (lo := (-2147483648)) (hi := 2147483647) rfl (by omega) (by omega) ?_
      intro τ6 g7 f8 e9
      refine wp_ic jF_25_23 rfl (pc2 := 24) ?_
      refine wp_ri jF_25_24 rfl ?_
      exact ⟨(-1), rfl, ⟨by omega, by omega⟩, g7, (FR.w FR.rf f8 rfl)⟩
set_option maxHeartbeats 4000000 in
set_option maxRecDepth 20000 in
/-- X.feed -/
theorem m_24_r9 (σ : jM) (hg : GI σ) (f1 : Int) (hl_f1 : (-2147483648) ≤ f1) (hu_f1 : f1 ≤ 2147483647) (f2 : Int) (hl_f2 : (-2147483648) ≤ f2) (hu_f2 : f2 ≤ 2147483647) (f3 : Int) (hl_f3 : (-2147483648) ≤ f3) (hu_f3 : f3 ≤ 2147483647) (f4 : Int) (hl_f4 : (-2147483648) ≤ f4) (hu_f4 : f4 ≤ 2147483647) (f5 : Int) (hl_f5 : (-2147483648) ≤ f5) (hu_f5 : f5 ≤ 2147483647)  (fr lo : Nat) (hfr : 1 ≤ fr) (hlo : 22 ≤ lo) : WP 24 0 (lv_args 0 [.ref 9, iV f1, iV f2, iV f3, iV f4, iV f5]) [] fr lo σ (fun v τ => ∃ z : Int, v = some (iV z) ∧ ((-2147483648) ≤ z ∧ z ≤ 2147483647) ∧ GI τ ∧ FR WXf σ τ ∧ ((σ.1 10 1) ≤ 1580 → ((τ.1 10 1) = (σ.1 10 1) + 20 ∧ z = (σ.1 10 1) + 20)) ∧ (1581 ≤ (σ.1 10 1) → ((τ.1 10 1) = (σ.1 10 1) ∧ z = -1))) := by
  show WP 24 0 [(0, .ref 9), (1, iV f1), (2, iV f2), (3, iV f3), (4, iV f4), (5, iV f5)] [] _ _ _ _
  refine wp_al1 jF_24_0 rfl rfl (pc2 := 1) ?_
  refine wp_gr (b := 10) jF_24_1 kd9 (by decide) (c := 110) rfl rfl rfl (pc2 := 4) ?_
  have b1 := GI.b hg 10 1 kd10 (lo := 0) (hi := 1600) rfl
  refine wp_gi jF_24_4 kd10 (by decide) rfl rfl rfl (pc2 := 7) ?_
  refine wp_bi jF_24_7 (by decide) rfl (pc2 := 9) ?_
  refine wp_add jF_24_9 rfl (pc2 := 10) ?_
  refine wp_si jF_24_10 (by decide) rfl (pc2 := 13) ?_
  refine wp_i_le jF_24_13 ⟨by omega, by omega⟩ (m_rgl rfl) rfl (pc2 := 16) ?_ ?_
  · intro h2
    refine wp_al1 jF_24_22 rfl rfl (pc2 := 23) ?_
    refine wp_gr (b := 10) jF_24_23 kd9 (by decide) (c := 110) rfl rfl rfl (pc2 := 26) ?_
    refine wp_il1 jF_24_26 rfl rfl (pc2 := 27) ?_
    refine wp_cV (as := [iV f1]) (rest := []) (a := 10) (mx := 3) (ci := 6) jF_24_27 kd10 (by decide) rfl rfl rfl rfl rfl (by omega) (by omega) rfl (pc2 := 30) ?_
    refine wp_use (m_26_r10 σ hg f1 (by omega) (by omega)  _ _ (by omega) (by omega)) ?_
    rintro _ τ5 ⟨rfl, g6, f7, p3, p4⟩
    show WP 24 30 [(0, .ref 9), (1, iV f1), (2, iV f2), (3, iV f3), (4, iV f4), (5, iV f5)] [] _ _ _ _
    refine wp_al1 jF_24_30 rfl rfl (pc2 := 31) ?_
    refine wp_gr (b := 10) jF_24_31 kd9 (by decide) (c := 110) rfl rfl rfl (pc2 := 34) ?_
    refine wp_il1 jF_24_34 rfl rfl (pc2 := 35) ?_
    refine wp_cV (as := [iV f2]) (rest := []) (a := 10) (mx := 3) (ci := 6) jF_24_35 kd10 (by decide) rfl rfl rfl rfl rfl (by omega) (by omega) rfl (pc2 := 38) ?_
    have b8 := GI.b g6 10 1 kd10 (lo := 0) (hi := 1600) rfl
    refine wp_use (m_26_r10 τ5 g6 f2 (by omega) (by omega)  _ _ (by omega) (by omega)) ?_
    rintro _ τ11 ⟨rfl, g12, f13, p9, p10⟩
    show WP 24 38 [(0, .ref 9), (1, iV f1), (2, iV f2), (3, iV f3), (4, iV f4), (5, iV f5)] [] _ _ _ _
    refine wp_al1 jF_24_38 rfl rfl (pc2 := 39) ?_
    refine wp_gr (b := 10) jF_24_39 kd9 (by decide) (c := 110) rfl rfl rfl (pc2 := 42) ?_
    refine wp_il1 jF_24_42 rfl rfl (pc2 := 43) ?_
    refine wp_cV (as := [iV f3]) (rest := []) (a := 10) (mx := 3) (ci := 6) jF_24_43 kd10 (by decide) rfl rfl rfl rfl rfl (by omega) (by omega) rfl (pc2 := 46) ?_
    have b14 := GI.b g12 10 1 kd10 (lo := 0) (hi := 1600) rfl
    refine wp_use (m_26_r10 τ11 g12 f3 (by omega) (by omega)  _ _ (by omega) (by omega)) ?_
    rintro _ τ17 ⟨rfl, g18, f19, p15, p16⟩
    show WP 24 46 [(0, .ref 9), (1, iV f1), (2, iV f2), (3, iV f3), (4, iV f4), (5, iV f5)] [] _ _ _ _
    refine wp_al1 jF_24_46 rfl rfl (pc2 := 47) ?_
    refine wp_gr (b := 10) jF_24_47 kd9 (by decide) (c := 110) rfl rfl rfl (pc2 := 50) ?_
    refine wp_il2 jF_24_50 rfl rfl (pc2 := 52) ?_
    refine wp_cV (as := [iV f4]) (rest := []) (a := 10) (mx := 3) (ci := 6) jF_24_52 kd10 (by decide) rfl rfl rfl rfl rfl (by omega) (by omega) rfl (pc2 := 55) ?_
    have b20 := GI.b g18 10 1 kd10 (lo := 0) (hi := 1600) rfl
    refine wp_use (m_26_r10 τ17 g18 f4 (by omega) (by omega)  _ _ (by omega) (by omega)) ?_
    rintro _ τ23 ⟨rfl, g24, f25, p21, p22⟩
    show WP 24 55 [(0, .ref 9), (1, iV f1), (2, iV f2), (3, iV f3), (4, iV f4), (5, iV f5)] [] _ _ _ _
    refine wp_al1 jF_24_55 rfl rfl (pc2 := 56) ?_
    refine wp_gr (b := 10) jF_24_56 kd9 (by decide) (c := 110) rfl rfl rfl (pc2 := 59) ?_
    refine wp_il2 jF_24_59 rfl rfl (pc2 := 61) ?_
    refine wp_cV (as := [iV f5]) (rest := []) (a := 10) (mx := 3) (ci := 6) jF_24_61 kd10 (by decide) rfl rfl rfl rfl rfl (by omega) (by omega) rfl (pc2 := 64) ?_
    have b26 := GI.b g24 10 1 kd10 (lo := 0) (hi := 1600) rfl
    refine wp_use (m_26_r10 τ23 g24 f5 (by omega) (by omega)  _ _ (by omega) (by omega)) ?_
    rintro _ τ29 ⟨rfl, g30, f31, p27, p28⟩
    show WP 24 64 [(0, .ref 9), (1, iV f1), (2, iV f2), (3, iV f3), (4, iV f4), (5, iV f5)] [] _ _ _ _
    refine wp_al1 jF_24_64 rfl rfl (pc2 := 65) ?_
    refine wp_gr (b := 10) jF_24_65 kd9 (by decide) (c := 110) rfl rfl rfl (pc2 := 68) ?_
    have b32 := GI.b g30 10 1 kd10 (lo := 0) (hi := 1600) rfl
    refine wp_gi jF_24_68 kd10 (by decide) rfl rfl rfl (pc2 := 71) ?_
    refine wp_ri jF_24_71 rfl ?_
    exact ⟨(τ29.1 10 1), rfl, ⟨by omega, by omega⟩, g30, (FR.up (FR.up (FR.up (FR.up (FR.up FR.rf f7 sb_Wap_WXf) f13 sb_Wap_WXf) f19 sb_Wap_WXf) f25 sb_Wap_WXf) f31 sb_Wap_WXf), (by omega), (by omega)⟩
  · intro h2
    refine wp_al1 jF_24_16 rfl rfl (pc2 := 17) ?_
    refine wp_ic jF_24_17 rfl (pc2 := 18) ?_
    refine wp_cV (as := [iV 0]) (rest := []) (a := 9) (mx := 2) (ci := 11) jF_24_18 kd9 (by decide) rfl rfl rfl rfl rfl (by omega) (by omega) rfl (pc2 := 21) ?_
    refine wp_use (m_25_r9 σ hg 0 (by omega) (by omega)  _ _ (by omega) (by omega)) ?_
    rintro _ τ33 ⟨z36, rfl, h37, g34, f35⟩
    show WP 24 21 [(0, .ref 9), (1, iV f1), (2, iV f2), (3, iV f3), (4, iV f4), (5, iV f5)] [iV z36] _ _ _ _
    refine wp_ri jF_24_21 rfl ?_
    have q38 : (τ33.1 10 1) = (σ.1 10 1) := (FR.at f35 10 1 rfl)
    exact ⟨z36, rfl, ⟨by omega, by omega⟩, g34, (FR.up FR.rf f35 sb_WXr_WXf), (by omega), (by omega)⟩
set_option maxHeartbeats 4000000 in
set_option maxRecDepth 20000 in
/-- X.end -/
theorem m_27_r9 (σ : jM) (hg : GI σ) (n : Int) (hl_n : (-2147483648) ≤ n) (hu_n : n ≤ 2147483647)  (fr lo : Nat) (hfr : 1 ≤ fr) (hlo : 21 ≤ lo) : WP 27 0 (lv_args 0 [.ref 9, iV n]) [] fr lo σ (fun v τ => ∃ z : Int, v = some (iV z) ∧ (0 ≤ z ∧ z ≤ 1) ∧ GI τ ∧ FR WXe σ τ ∧ (0 ≤ n → n ≤ (σ.1 10 1) → (τ.1 10 1) = n) ∧ ((n < 0 ∨ (σ.1 10 1) < n) → (τ.1 10 1) = (σ.1 10 1))) := by
  show WP 27 0 [(0, .ref 9), (1, iV n)] [] _ _ _ _
  refine wp_il1 jF_27_0 rfl rfl (pc2 := 1) ?_
  refine wp_z_lt jF_27_1 ⟨by omega, by omega⟩ rfl (pc2 := 4) ?_ ?_
  · intro h1
    refine wp_al1 jF_27_15 rfl rfl (pc2 := 16) ?_
    refine wp_ic jF_27_16 rfl (pc2 := 17) ?_
    refine wp_cV (as := [iV 0]) (rest := []) (a := 9) (mx := 2) (ci := 11) jF_27_17 kd9 (by decide) rfl rfl rfl rfl rfl (by omega) (by omega) rfl (pc2 := 20) ?_
    refine wp_use (m_25_r9 σ hg 0 (by omega) (by omega)  _ _ (by omega) (by omega)) ?_
    rintro _ τ2 ⟨z5, rfl, h6, g3, f4⟩
    show WP 27 20 [(0, .ref 9), (1, iV n)] [iV z5] _ _ _ _
    refine wp_pop jF_27_20 rfl rfl (pc2 := 21) ?_
    refine wp_ic jF_27_21 rfl (pc2 := 22) ?_
    refine wp_ri jF_27_22 rfl ?_
    have b7 := GI.b hg 10 1 kd10 (lo := 0) (hi := 1600) rfl
    have q8 : (τ2.1 10 1) = (σ.1 10 1) := (FR.at f4 10 1 rfl)
    exact ⟨0, rfl, ⟨by omega, by omega⟩, g3, (FR.up FR.rf f4 sb_WXr_WXe), (by omega), (by omega)⟩
  · intro h1
    refine wp_il1 jF_27_4 rfl rfl (pc2 := 5) ?_
    refine wp_al1 jF_27_5 rfl rfl (pc2 := 6) ?_
    refine wp_gr (b := 10) jF_27_6 kd9 (by decide) (c := 110) rfl rfl rfl (pc2 := 9) ?_
    have b9 := GI.b hg 10 1 kd10 (lo := 0) (hi := 1600) rfl
    refine wp_gi jF_27_9 kd10 (by decide) rfl rfl rfl (pc2 := 12) ?_
    refine wp_i_le jF_27_12 ⟨by omega, by omega⟩ (m_rgb b9 rfl) rfl (pc2 := 15) ?_ ?_
    · intro h10
      refine wp_al1 jF_27_23 rfl rfl (pc2 := 24) ?_
      refine wp_gr (b := 10) jF_27_24 kd9 (by decide) (c := 110) rfl rfl rfl (pc2 := 27) ?_
      refine wp_il1 jF_27_27 rfl rfl (pc2 := 28) ?_
      refine wp_pi jF_27_28 kd10 (by decide) rfl rfl rfl (pc2 := 31) hg (lo := 0) (hi := 1600) rfl (by omega) (by omega) ?_
      intro τ11 g12 f13 e14
      refine wp_ic jF_27_31 rfl (pc2 := 32) ?_
      refine wp_ri jF_27_32 rfl ?_
      have q15 : (τ11.1 10 1) = n := e14
      exact ⟨1, rfl, ⟨by omega, by omega⟩, g12, (FR.w FR.rf f13 rfl), (by omega), (by omega)⟩
    · intro h10
      refine wp_al1 jF_27_15 rfl rfl (pc2 := 16) ?_
      refine wp_ic jF_27_16 rfl (pc2 := 17) ?_
      refine wp_cV (as := [iV 0]) (rest := []) (a := 9) (mx := 2) (ci := 11) jF_27_17 kd9 (by decide) rfl rfl rfl rfl rfl (by omega) (by omega) rfl (pc2 := 20) ?_
      refine wp_use (m_25_r9 σ hg 0 (by omega) (by omega)  _ _ (by omega) (by omega)) ?_
      rintro _ τ16 ⟨z19, rfl, h20, g17, f18⟩
      show WP 27 20 [(0, .ref 9), (1, iV n)] [iV z19] _ _ _ _
      refine wp_pop jF_27_20 rfl rfl (pc2 := 21) ?_
      refine wp_ic jF_27_21 rfl (pc2 := 22) ?_
      refine wp_ri jF_27_22 rfl ?_
      have q21 : (τ16.1 10 1) = (σ.1 10 1) := (FR.at f18 10 1 rfl)
      exact ⟨0, rfl, ⟨by omega, by omega⟩, g17, (FR.up FR.rf f18 sb_WXr_WXe), (by omega), (by omega)⟩
set_option maxHeartbeats 4000000 in
set_option maxRecDepth 20000 in
/-- X.enactTrial -/
theorem m_87_r9 (σ : jM) (hg : GI σ)  (hsp : SPK σ)  (fr lo : Nat) (hfr : 2 ≤ fr) (hlo : 101 ≤ lo) : WP 87 0 (lv_args 0 [.ref 9]) [] fr lo σ (fun v τ => ∃ z : Int, v = some (iV z) ∧ ((-2147483648) ≤ z ∧ z ≤ 2147483647) ∧ GI τ ∧ FR WXg σ τ) := by
  rcases hsp with ⟨hs1, hs2⟩ | ⟨hs1, hs2⟩
  · skip
    show WP 87 0 [(0, .ref 9)] [] _ _ _ _
    refine wp_al1 jF_87_0 rfl rfl (pc2 := 1) ?_
    refine wp_gr (b := 90) jF_87_1 kd9 (by decide) (c := 190) rfl rfl rfl (pc2 := 4) ?_
    refine wp_al1 jF_87_4 rfl rfl (pc2 := 5) ?_
    refine wp_gr (b := 70) jF_87_5 kd9 (by decide) (c := 170) rfl rfl rfl (pc2 := 8) ?_
    refine wp_cV (as := [.ref 70]) (rest := []) (a := 90) (mx := 2) (ci := 0) jF_87_8 kd90 (by decide) rfl rfl rfl rfl rfl (by omega) (by omega) rfl (pc2 := 11) ?_
    refine wp_use (m_88_r90_70 σ hg   _ _ (by omega) (by omega)) ?_
    rintro _ τ1 ⟨rfl, g2, f3⟩
    show WP 87 11 [(0, .ref 9)] [] _ _ _ _
    refine wp_al1 jF_87_11 rfl rfl (pc2 := 12) ?_
    refine wp_gr (b := 70) jF_87_12 kd9 (by decide) (c := 170) rfl rfl rfl (pc2 := 15) ?_
    refine wp_al1 jF_87_15 rfl rfl (pc2 := 16) ?_
    refine wp_gr (b := 80) jF_87_16 kd9 (by decide) (c := 180) rfl rfl rfl (pc2 := 19) ?_
    refine wp_cV (as := [.ref 80]) (rest := []) (a := 70) (mx := 2) (ci := 4) jF_87_19 kd70 (by decide) rfl rfl rfl rfl rfl (by omega) (by omega) rfl (pc2 := 22) ?_
    refine wp_use (m_84_r70_80 τ1 g2   _ _ (by omega) (by omega)) ?_
    rintro _ τ4 ⟨rfl, g5, f6⟩
    show WP 87 22 [(0, .ref 9)] [] _ _ _ _
    refine wp_al1 jF_87_22 rfl rfl (pc2 := 23) ?_
    refine wp_gr (b := 70) jF_87_23 kd9 (by decide) (c := 170) rfl rfl rfl (pc2 := 26) ?_
    refine wp_al1 jF_87_26 rfl rfl (pc2 := 27) ?_
    refine wp_gr jF_87_27 kd9 (by decide) (c := 2) rfl (m_fv2 ((FR.ar f6 9 4 rfl).trans ((FR.ar f3 9 4 rfl).trans hs1)) rfl) rfl (pc2 := 30) ?_
    refine wp_cV (as := [.ref 20]) (rest := []) (a := 70) (mx := 4) (ci := 4) jF_87_30 kd70 (by decide) rfl rfl rfl rfl rfl (by omega) (by omega) rfl (pc2 := 33) ?_
    refine wp_use (m_82_r70_20 τ4 g5   _ _ (by omega) (by omega)) ?_
    rintro _ τ7 ⟨rfl, g8, f9⟩
    show WP 87 33 [(0, .ref 9)] [] _ _ _ _
    refine wp_al1 jF_87_33 rfl rfl (pc2 := 34) ?_
    refine wp_gr (b := 70) jF_87_34 kd9 (by decide) (c := 170) rfl rfl rfl (pc2 := 37) ?_
    have b10 := GI.b g8 70 2 kd70 (lo := (-2147483648)) (hi := 2147483647) rfl
    refine wp_gi jF_87_37 kd70 (by decide) rfl rfl rfl (pc2 := 40) ?_
    refine wp_ri jF_87_40 rfl ?_
    exact ⟨(τ7.1 70 2), rfl, ⟨by omega, by omega⟩, g8, (FR.up (FR.up (FR.up FR.rf f3 sb_Wac_WXg) f6 sb_WW70_WXg) f9 sb_WW70_WXg)⟩
  · skip
    show WP 87 0 [(0, .ref 9)] [] _ _ _ _
    refine wp_al1 jF_87_0 rfl rfl (pc2 := 1) ?_
    refine wp_gr (b := 90) jF_87_1 kd9 (by decide) (c := 190) rfl rfl rfl (pc2 := 4) ?_
    refine wp_al1 jF_87_4 rfl rfl (pc2 := 5) ?_
    refine wp_gr (b := 70) jF_87_5 kd9 (by decide) (c := 170) rfl rfl rfl (pc2 := 8) ?_
    refine wp_cV (as := [.ref 70]) (rest := []) (a := 90) (mx := 2) (ci := 0) jF_87_8 kd90 (by decide) rfl rfl rfl rfl rfl (by omega) (by omega) rfl (pc2 := 11) ?_
    refine wp_use (m_88_r90_70 σ hg   _ _ (by omega) (by omega)) ?_
    rintro _ τ11 ⟨rfl, g12, f13⟩
    show WP 87 11 [(0, .ref 9)] [] _ _ _ _
    refine wp_al1 jF_87_11 rfl rfl (pc2 := 12) ?_
    refine wp_gr (b := 70) jF_87_12 kd9 (by decide) (c := 170) rfl rfl rfl (pc2 := 15) ?_
    refine wp_al1 jF_87_15 rfl rfl (pc2 := 16) ?_
    refine wp_gr (b := 80) jF_87_16 kd9 (by decide) (c := 180) rfl rfl rfl (pc2 := 19) ?_
    refine wp_cV (as := [.ref 80]) (rest := []) (a := 70) (mx := 2) (ci := 4) jF_87_19 kd70 (by decide) rfl rfl rfl rfl rfl (by omega) (by omega) rfl (pc2 := 22) ?_
    refine wp_use (m_84_r70_80 τ11 g12   _ _ (by omega) (by omega)) ?_
    rintro _ τ14 ⟨rfl, g15, f16⟩
    show WP 87 22 [(0, .ref 9)] [] _ _ _ _
    refine wp_al1 jF_87_22 rfl rfl (pc2 := 23) ?_
    refine wp_gr (b := 70) jF_87_23 kd9 (by decide) (c := 170) rfl rfl rfl (pc2 := 26) ?_
    refine wp_al1 jF_87_26 rfl rfl (pc2 := 27) ?_
    refine wp_gr jF_87_27 kd9 (by decide) (c := 2) rfl (m_fv2 ((FR.ar f16 9 4 rfl).trans ((FR.ar f13 9 4 rfl).trans hs1)) rfl) rfl (pc2 := 30) ?_
    refine wp_cV (as := [.ref 45]) (rest := []) (a := 70) (mx := 4) (ci := 4) jF_87_30 kd70 (by decide) rfl rfl rfl rfl rfl (by omega) (by omega) rfl (pc2 := 33) ?_
    refine wp_use (m_82_r70_45 τ14 g15   _ _ (by omega) (by omega)) ?_
    rintro _ τ17 ⟨rfl, g18, f19⟩
    show WP 87 33 [(0, .ref 9)] [] _ _ _ _
    refine wp_al1 jF_87_33 rfl rfl (pc2 := 34) ?_
    refine wp_gr (b := 70) jF_87_34 kd9 (by decide) (c := 170) rfl rfl rfl (pc2 := 37) ?_
    have b20 := GI.b g18 70 2 kd70 (lo := (-2147483648)) (hi := 2147483647) rfl
    refine wp_gi jF_87_37 kd70 (by decide) rfl rfl rfl (pc2 := 40) ?_
    refine wp_ri jF_87_40 rfl ?_
    exact ⟨(τ17.1 70 2), rfl, ⟨by omega, by omega⟩, g18, (FR.up (FR.up (FR.up FR.rf f13 sb_Wac_WXg) f16 sb_WW70_WXg) f19 sb_WW70_WXg)⟩
set_option maxHeartbeats 4000000 in
set_option maxRecDepth 20000 in
/-- X.tongue -/
theorem m_28_r9 (σ : jM) (hg : GI σ)  (hsp : SPK σ) (pre0 : (σ.1 33 5) ≤ 8) (pre1 : (σ.1 39 5) ≤ 10) (pre2 : (σ.1 58 5) ≤ 8) (pre3 : (σ.1 64 5) ≤ 10) (fr lo : Nat) (hfr : 7 ≤ fr) (hlo : 157 ≤ lo) : WP 28 0 (lv_args 0 [.ref 9]) [] fr lo σ (fun v τ => ∃ z : Int, v = some (iV z) ∧ ((-2147483648) ≤ z ∧ z ≤ 2147483647) ∧ GI τ ∧ FR WXt σ τ ∧ (SPK τ) ∧ ((τ.1 33 5) ≤ 8) ∧ ((τ.1 39 5) ≤ 10) ∧ ((τ.1 58 5) ≤ 8) ∧ ((τ.1 64 5) ≤ 10) ∧ ((τ.1 10 1) = 0)) := by
  rcases hsp with ⟨hs1, hs2⟩ | ⟨hs1, hs2⟩
  · skip
    show WP 28 0 [(0, .ref 9)] [] _ _ _ _
    refine wp_al1 jF_28_0 rfl rfl (pc2 := 1) ?_
    refine wp_gr (b := 12) jF_28_1 kd9 (by decide) (c := 112) rfl rfl rfl (pc2 := 4) ?_
    refine wp_al1 jF_28_4 rfl rfl (pc2 := 5) ?_
    refine wp_gr jF_28_5 kd9 (by decide) (c := 2) rfl (m_fv2 hs2 rfl) rfl (pc2 := 8) ?_
    refine wp_cV (as := [.ref 45]) (rest := []) (a := 12) (mx := 4) (ci := 9) jF_28_8 kd12 (by decide) rfl rfl rfl rfl rfl (by omega) (by omega) rfl (pc2 := 11) ?_
    refine wp_use (m_29_r12_45 σ hg   _ _ (by omega) (by omega)) ?_
    rintro _ τ3 ⟨z6, rfl, h7, g4, f5, p1, p2⟩
    show WP 28 11 [(0, .ref 9)] [iV z6] _ _ _ _
    refine wp_is1 (lv2 := [(0, .ref 9), (1, iV z6)]) jF_28_11 rfl rfl rfl (pc2 := 12) ?_
    refine wp_al1 jF_28_12 rfl rfl (pc2 := 13) ?_
    refine wp_gr (b := 10) jF_28_13 kd9 (by decide) (c := 110) rfl rfl rfl (pc2 := 16) ?_
    refine wp_ic jF_28_16 rfl (pc2 := 17) ?_
    refine wp_pi jF_28_17 kd10 (by decide) rfl rfl rfl (pc2 := 20) g4 (lo := 0) (hi := 1600) rfl (by omega) (by omega) ?_
    intro τ8 g9 f10 e11
    refine wp_il1 jF_28_20 rfl rfl (pc2 := 21) ?_
    refine wp_ic jF_28_21 rfl (pc2 := 22) ?_
    refine wp_i_ne jF_28_22 (m_rgb h7 rfl) (m_rgl rfl) rfl (pc2 := 25) ?_ ?_
    · intro h12
      refine wp_al1 jF_28_31 rfl rfl (pc2 := 32) ?_
      refine wp_gr jF_28_32 kd9 (by decide) (c := 2) rfl (m_fv2 ((FRw.nar f10 (by decide)).trans ((FR.ar f5 9 4 rfl).trans hs1)) rfl) rfl (pc2 := 35) ?_
      refine wp_as1 (lv2 := [(0, .ref 9), (1, iV z6), (2, .ref 20)]) jF_28_35 rfl rfl rfl (pc2 := 36) ?_
      refine wp_al1 jF_28_36 rfl rfl (pc2 := 37) ?_
      refine wp_al1 jF_28_37 rfl rfl (pc2 := 38) ?_
      refine wp_gr jF_28_38 kd9 (by decide) (c := 2) rfl (m_fv2 ((FRw.nar f10 (by decide)).trans ((FR.ar f5 9 5 rfl).trans hs2)) rfl) rfl (pc2 := 41) ?_
      refine wp_pr jF_28_41 kd9 (by decide) rfl rfl rfl (pc2 := 44) g9 ?_
      intro τ13 g14 f15 e16
      refine wp_al1 jF_28_44 rfl rfl (pc2 := 45) ?_
      refine wp_al1 jF_28_45 rfl rfl (pc2 := 46) ?_
      refine wp_pr jF_28_46 kd9 (by decide) rfl rfl rfl (pc2 := 49) g14 ?_
      intro τ17 g18 f19 e20
      refine wp_al1 jF_28_49 rfl rfl (pc2 := 50) ?_
      refine wp_gr (b := 70) jF_28_50 kd9 (by decide) (c := 170) rfl rfl rfl (pc2 := 53) ?_
      refine wp_cV (as := []) (rest := []) (a := 70) (mx := 1) (ci := 4) jF_28_53 kd70 (by decide) rfl rfl rfl rfl rfl (by omega) (by omega) rfl (pc2 := 56) ?_
      refine wp_use (m_71_r70 τ17 g18   _ _ (by omega) (by omega)) ?_
      rintro _ τ21 ⟨rfl, g22, f23⟩
      show WP 28 56 [(0, .ref 9), (1, iV z6), (2, .ref 20)] [] _ _ _ _
      refine wp_al1 jF_28_56 rfl rfl (pc2 := 57) ?_
      refine wp_gr (b := 75) jF_28_57 kd9 (by decide) (c := 175) rfl rfl rfl (pc2 := 60) ?_
      refine wp_cV (as := []) (rest := []) (a := 75) (mx := 1) (ci := 4) jF_28_60 kd75 (by decide) rfl rfl rfl rfl rfl (by omega) (by omega) rfl (pc2 := 63) ?_
      refine wp_use (m_71_r75 τ21 g22   _ _ (by omega) (by omega)) ?_
      rintro _ τ24 ⟨rfl, g25, f26⟩
      show WP 28 63 [(0, .ref 9), (1, iV z6), (2, .ref 20)] [] _ _ _ _
      refine wp_al1 jF_28_63 rfl rfl (pc2 := 64) ?_
      refine wp_gr (b := 90) jF_28_64 kd9 (by decide) (c := 190) rfl rfl rfl (pc2 := 67) ?_
      refine wp_cV (as := []) (rest := []) (a := 90) (mx := 1) (ci := 0) jF_28_67 kd90 (by decide) rfl rfl rfl rfl rfl (by omega) (by omega) rfl (pc2 := 70) ?_
      refine wp_use (m_72_r90 τ24 g25   _ _ (by omega) (by omega)) ?_
      rintro _ τ27 ⟨rfl, g28, f29⟩
      show WP 28 70 [(0, .ref 9), (1, iV z6), (2, .ref 20)] [] _ _ _ _
      refine wp_al1 jF_28_70 rfl rfl (pc2 := 71) ?_
      refine wp_gr (b := 93) jF_28_71 kd9 (by decide) (c := 193) rfl rfl rfl (pc2 := 74) ?_
      refine wp_cV (as := []) (rest := []) (a := 93) (mx := 1) (ci := 5) jF_28_74 kd93 (by decide) rfl rfl rfl rfl rfl (by omega) (by omega) rfl (pc2 := 77) ?_
      refine wp_use (m_73_r93 τ27 g28   _ _ (by omega) (by omega)) ?_
      rintro _ τ30 ⟨rfl, g31, f32⟩
      show WP 28 77 [(0, .ref 9), (1, iV z6), (2, .ref 20)] [] _ _ _ _
      refine wp_il1 jF_28_77 rfl rfl (pc2 := 78) ?_
      refine wp_ri jF_28_78 rfl ?_
      have q33 : (τ30.1 10 1) = 0 := ((FR.at f32 10 1 rfl).trans ((FR.at f29 10 1 rfl).trans ((FR.at f26 10 1 rfl).trans ((FR.at f23 10 1 rfl).trans ((FRw.na f19 (by decide)).trans ((FRw.na f15 (by decide)).trans e11))))))
      have b34 := GI.b hg 33 5 kd33 (lo := 0) (hi := 16) rfl
      have q35 : (τ30.1 33 5) = (σ.1 33 5) := ((FR.at f32 33 5 rfl).trans ((FR.at f29 33 5 rfl).trans ((FR.at f26 33 5 rfl).trans ((FR.at f23 33 5 rfl).trans ((FRw.na f19 (by decide)).trans ((FRw.na f15 (by decide)).trans ((FRw.na f10 (by decide)).trans (FR.at f5 33 5 rfl))))))))
      have b36 := GI.b hg 39 5 kd39 (lo := 0) (hi := 16) rfl
      have q37 : (τ30.1 39 5) = (σ.1 39 5) := ((FR.at f32 39 5 rfl).trans ((FR.at f29 39 5 rfl).trans ((FR.at f26 39 5 rfl).trans ((FR.at f23 39 5 rfl).trans ((FRw.na f19 (by decide)).trans ((FRw.na f15 (by decide)).trans ((FRw.na f10 (by decide)).trans (FR.at f5 39 5 rfl))))))))
      have b38 := GI.b g4 58 5 kd58 (lo := 0) (hi := 16) rfl
      have q39 : (τ30.1 58 5) = (τ3.1 58 5) := ((FR.at f32 58 5 rfl).trans ((FR.at f29 58 5 rfl).trans ((FR.at f26 58 5 rfl).trans ((FR.at f23 58 5 rfl).trans ((FRw.na f19 (by decide)).trans ((FRw.na f15 (by decide)).trans (FRw.na f10 (by decide))))))))
      have b40 := GI.b g4 64 5 kd64 (lo := 0) (hi := 16) rfl
      have q41 : (τ30.1 64 5) = (τ3.1 64 5) := ((FR.at f32 64 5 rfl).trans ((FR.at f29 64 5 rfl).trans ((FR.at f26 64 5 rfl).trans ((FR.at f23 64 5 rfl).trans ((FRw.na f19 (by decide)).trans ((FRw.na f15 (by decide)).trans (FRw.na f10 (by decide))))))))
      exact ⟨z6, rfl, ⟨by omega, by omega⟩, g31, (FR.up (FR.up (FR.up (FR.up (FR.w (FR.w (FR.w (FR.up FR.rf f5 sb_WR45_WXt) f10 rfl) f15 rfl) f19 rfl) f23 sb_WW70_WXt) f26 sb_WW75_WXt) f29 sb_Wac_WXt) f32 sb_WS_WXt), (Or.inr ⟨((FR.ar f32 9 4 rfl).trans ((FR.ar f29 9 4 rfl).trans ((FR.ar f26 9 4 rfl).trans ((FR.ar f23 9 4 rfl).trans ((FRw.njr f19 (by decide)).trans e16))))), ((FR.ar f32 9 5 rfl).trans ((FR.ar f29 9 5 rfl).trans ((FR.ar f26 9 5 rfl).trans ((FR.ar f23 9 5 rfl).trans e20))))⟩), (by omega), (by omega), (by omega), (by omega), (by omega)⟩
    · intro h12
      refine wp_al1 jF_28_25 rfl rfl (pc2 := 26) ?_
      refine wp_ic jF_28_26 rfl (pc2 := 27) ?_
      refine wp_cV (as := [iV 1]) (rest := []) (a := 9) (mx := 2) (ci := 11) jF_28_27 kd9 (by decide) rfl rfl rfl rfl rfl (by omega) (by omega) rfl (pc2 := 30) ?_
      refine wp_use (m_25_r9 τ8 g9 1 (by omega) (by omega)  _ _ (by omega) (by omega)) ?_
      rintro _ τ42 ⟨z45, rfl, h46, g43, f44⟩
      show WP 28 30 [(0, .ref 9), (1, iV z6)] [iV z45] _ _ _ _
      refine wp_ri jF_28_30 rfl ?_
      have q47 : (τ42.1 10 1) = 0 := ((FR.at f44 10 1 rfl).trans e11)
      have b48 := GI.b hg 33 5 kd33 (lo := 0) (hi := 16) rfl
      have q49 : (τ42.1 33 5) = (σ.1 33 5) := ((FR.at f44 33 5 rfl).trans ((FRw.na f10 (by decide)).trans (FR.at f5 33 5 rfl)))
      have b50 := GI.b hg 39 5 kd39 (lo := 0) (hi := 16) rfl
      have q51 : (τ42.1 39 5) = (σ.1 39 5) := ((FR.at f44 39 5 rfl).trans ((FRw.na f10 (by decide)).trans (FR.at f5 39 5 rfl)))
      have b52 := GI.b g4 58 5 kd58 (lo := 0) (hi := 16) rfl
      have q53 : (τ42.1 58 5) = (τ3.1 58 5) := ((FR.at f44 58 5 rfl).trans (FRw.na f10 (by decide)))
      have b54 := GI.b g4 64 5 kd64 (lo := 0) (hi := 16) rfl
      have q55 : (τ42.1 64 5) = (τ3.1 64 5) := ((FR.at f44 64 5 rfl).trans (FRw.na f10 (by decide)))
      exact ⟨z45, rfl, ⟨by omega, by omega⟩, g43, (FR.up (FR.w (FR.up FR.rf f5 sb_WR45_WXt) f10 rfl) f44 sb_WXr_WXt), (Or.inl ⟨((FR.ar f44 9 4 rfl).trans ((FRw.nar f10 (by decide)).trans ((FR.ar f5 9 4 rfl).trans hs1))), ((FR.ar f44 9 5 rfl).trans ((FRw.nar f10 (by decide)).trans ((FR.ar f5 9 5 rfl).trans hs2)))⟩), (by omega), (by omega), (by omega), (by omega), (by omega)⟩
  · skip
    show WP 28 0 [(0, .ref 9)] [] _ _ _ _
    refine wp_al1 jF_28_0 rfl rfl (pc2 := 1) ?_
    refine wp_gr (b := 12) jF_28_1 kd9 (by decide) (c := 112) rfl rfl rfl (pc2 := 4) ?_
    refine wp_al1 jF_28_4 rfl rfl (pc2 := 5) ?_
    refine wp_gr jF_28_5 kd9 (by decide) (c := 2) rfl (m_fv2 hs2 rfl) rfl (pc2 := 8) ?_
    refine wp_cV (as := [.ref 20]) (rest := []) (a := 12) (mx := 4) (ci := 9) jF_28_8 kd12 (by decide) rfl rfl rfl rfl rfl (by omega) (by omega) rfl (pc2 := 11) ?_
    refine wp_use (m_29_r12_20 σ hg   _ _ (by omega) (by omega)) ?_
    rintro _ τ58 ⟨z61, rfl, h62, g59, f60, p56, p57⟩
    show WP 28 11 [(0, .ref 9)] [iV z61] _ _ _ _
    refine wp_is1 (lv2 := [(0, .ref 9), (1, iV z61)]) jF_28_11 rfl rfl rfl (pc2 := 12) ?_
    refine wp_al1 jF_28_12 rfl rfl (pc2 := 13) ?_
    refine wp_gr (b := 10) jF_28_13 kd9 (by decide) (c := 110) rfl rfl rfl (pc2 := 16) ?_
    refine wp_ic jF_28_16 rfl (pc2 := 17) ?_
    refine wp_pi jF_28_17 kd10 (by decide) rfl rfl rfl (pc2 := 20) g59 (lo := 0) (hi := 1600) rfl (by omega) (by omega) ?_
    intro τ63 g64 f65 e66
    refine wp_il1 jF_28_20 rfl rfl (pc2 := 21) ?_
    refine wp_ic jF_28_21 rfl (pc2 := 22) ?_
    refine wp_i_ne jF_28_22 (m_rgb h62 rfl) (m_rgl rfl) rfl (pc2 := 25) ?_ ?_
    · intro h67
      refine wp_al1 jF_28_31 rfl rfl (pc2 := 32) ?_
      refine wp_gr jF_28_32 kd9 (by decide) (c := 2) rfl (m_fv2 ((FRw.nar f65 (by decide)).trans ((FR.ar f60 9 4 rfl).trans hs1)) rfl) rfl (pc2 := 35) ?_
      refine wp_as1 (lv2 := [(0, .ref 9), (1, iV z61), (2, .ref 45)]) jF_28_35 rfl rfl rfl (pc2 := 36) ?_
      refine wp_al1 jF_28_36 rfl rfl (pc2 := 37) ?_
      refine wp_al1 jF_28_37 rfl rfl (pc2 := 38) ?_
      refine wp_gr jF_28_38 kd9 (by decide) (c := 2) rfl (m_fv2 ((FRw.nar f65 (by decide)).trans ((FR.ar f60 9 5 rfl).trans hs2)) rfl) rfl (pc2 := 41) ?_
      refine wp_pr jF_28_41 kd9 (by decide) rfl rfl rfl (pc2 := 44) g64 ?_
      intro τ68 g69 f70 e71
      refine wp_al1 jF_28_44 rfl rfl (pc2 := 45) ?_
      refine wp_al1 jF_28_45 rfl rfl (pc2 := 46) ?_
      refine wp_pr jF_28_46 kd9 (by decide) rfl rfl rfl (pc2 := 49) g69 ?_
      intro τ72 g73 f74 e75
      refine wp_al1 jF_28_49 rfl rfl (pc2 := 50) ?_
      refine wp_gr (b := 70) jF_28_50 kd9 (by decide) (c := 170) rfl rfl rfl (pc2 := 53) ?_
      refine wp_cV (as := []) (rest := []) (a := 70) (mx := 1) (ci := 4) jF_28_53 kd70 (by decide) rfl rfl rfl rfl rfl (by omega) (by omega) rfl (pc2 := 56) ?_
      refine wp_use (m_71_r70 τ72 g73   _ _ (by omega) (by omega)) ?_
      rintro _ τ76 ⟨rfl, g77, f78⟩
      show WP 28 56 [(0, .ref 9), (1, iV z61), (2, .ref 45)] [] _ _ _ _
      refine wp_al1 jF_28_56 rfl rfl (pc2 := 57) ?_
      refine wp_gr (b := 75) jF_28_57 kd9 (by decide) (c := 175) rfl rfl rfl (pc2 := 60) ?_
      refine wp_cV (as := []) (rest := []) (a := 75) (mx := 1) (ci := 4) jF_28_60 kd75 (by decide) rfl rfl rfl rfl rfl (by omega) (by omega) rfl (pc2 := 63) ?_
      refine wp_use (m_71_r75 τ76 g77   _ _ (by omega) (by omega)) ?_
      rintro _ τ79 ⟨rfl, g80, f81⟩
      show WP 28 63 [(0, .ref 9), (1, iV z61), (2, .ref 45)] [] _ _ _ _
      refine wp_al1 jF_28_63 rfl rfl (pc2 := 64) ?_
      refine wp_gr (b := 90) jF_28_64 kd9 (by decide) (c := 190) rfl rfl rfl (pc2 := 67) ?_
      refine wp_cV (as := []) (rest := []) (a := 90) (mx := 1) (ci := 0) jF_28_67 kd90 (by decide) rfl rfl rfl rfl rfl (by omega) (by omega) rfl (pc2 := 70) ?_
      refine wp_use (m_72_r90 τ79 g80   _ _ (by omega) (by omega)) ?_
      rintro _ τ82 ⟨rfl, g83, f84⟩
      show WP 28 70 [(0, .ref 9), (1, iV z61), (2, .ref 45)] [] _ _ _ _
      refine wp_al1 jF_28_70 rfl rfl (pc2 := 71) ?_
      refine wp_gr (b := 93) jF_28_71 kd9 (by decide) (c := 193) rfl rfl rfl (pc2 := 74) ?_
      refine wp_cV (as := []) (rest := []) (a := 93) (mx := 1) (ci := 5) jF_28_74 kd93 (by decide) rfl rfl rfl rfl rfl (by omega) (by omega) rfl (pc2 := 77) ?_
      refine wp_use (m_73_r93 τ82 g83   _ _ (by omega) (by omega)) ?_
      rintro _ τ85 ⟨rfl, g86, f87⟩
      show WP 28 77 [(0, .ref 9), (1, iV z61), (2, .ref 45)] [] _ _ _ _
      refine wp_il1 jF_28_77 rfl rfl (pc2 := 78) ?_
      refine wp_ri jF_28_78 rfl ?_
      have q88 : (τ85.1 10 1) = 0 := ((FR.at f87 10 1 rfl).trans ((FR.at f84 10 1 rfl).trans ((FR.at f81 10 1 rfl).trans ((FR.at f78 10 1 rfl).trans ((FRw.na f74 (by decide)).trans ((FRw.na f70 (by decide)).trans e66))))))
      have b89 := GI.b g59 33 5 kd33 (lo := 0) (hi := 16) rfl
      have q90 : (τ85.1 33 5) = (τ58.1 33 5) := ((FR.at f87 33 5 rfl).trans ((FR.at f84 33 5 rfl).trans ((FR.at f81 33 5 rfl).trans ((FR.at f78 33 5 rfl).trans ((FRw.na f74 (by decide)).trans ((FRw.na f70 (by decide)).trans (FRw.na f65 (by decide))))))))
      have b91 := GI.b g59 39 5 kd39 (lo := 0) (hi := 16) rfl
      have q92 : (τ85.1 39 5) = (τ58.1 39 5) := ((FR.at f87 39 5 rfl).trans ((FR.at f84 39 5 rfl).trans ((FR.at f81 39 5 rfl).trans ((FR.at f78 39 5 rfl).trans ((FRw.na f74 (by decide)).trans ((FRw.na f70 (by decide)).trans (FRw.na f65 (by decide))))))))
      have b93 := GI.b hg 58 5 kd58 (lo := 0) (hi := 16) rfl
      have q94 : (τ85.1 58 5) = (σ.1 58 5) := ((FR.at f87 58 5 rfl).trans ((FR.at f84 58 5 rfl).trans ((FR.at f81 58 5 rfl).trans ((FR.at f78 58 5 rfl).trans ((FRw.na f74 (by decide)).trans ((FRw.na f70 (by decide)).trans ((FRw.na f65 (by decide)).trans (FR.at f60 58 5 rfl))))))))
      have b95 := GI.b hg 64 5 kd64 (lo := 0) (hi := 16) rfl
      have q96 : (τ85.1 64 5) = (σ.1 64 5) := ((FR.at f87 64 5 rfl).trans ((FR.at f84 64 5 rfl).trans ((FR.at f81 64 5 rfl).trans ((FR.at f78 64 5 rfl).trans ((FRw.na f74 (by decide)).trans ((FRw.na f70 (by decide)).trans ((FRw.na f65 (by decide)).trans (FR.at f60 64 5 rfl))))))))
      exact ⟨z61, rfl, ⟨by omega, by omega⟩, g86, (FR.up (FR.up (FR.up (FR.up (FR.w (FR.w (FR.w (FR.up FR.rf f60 sb_WR20_WXt) f65 rfl) f70 rfl) f74 rfl) f78 sb_WW70_WXt) f81 sb_WW75_WXt) f84 sb_Wac_WXt) f87 sb_WS_WXt), (Or.inl ⟨((FR.ar f87 9 4 rfl).trans ((FR.ar f84 9 4 rfl).trans ((FR.ar f81 9 4 rfl).trans ((FR.ar f78 9 4 rfl).trans ((FRw.njr f74 (by decide)).trans e71))))), ((FR.ar f87 9 5 rfl).trans ((FR.ar f84 9 5 rfl).trans ((FR.ar f81 9 5 rfl).trans ((FR.ar f78 9 5 rfl).trans e75))))⟩), (by omega), (by omega), (by omega), (by omega), (by omega)⟩
    · intro h67
      refine wp_al1 jF_28_25 rfl rfl (pc2 := 26) ?_
      refine wp_ic jF_28_26 rfl (pc2 := 27) ?_
      refine wp_cV (as := [iV 1]) (rest := []) (a := 9) (mx := 2) (ci := 11) jF_28_27 kd9 (by decide) rfl rfl rfl rfl rfl (by omega) (by omega) rfl (pc2 := 30) ?_
      refine wp_use (m_25_r9 τ63 g64 1 (by omega) (by omega)  _ _ (by omega) (by omega)) ?_
      rintro _ τ97 ⟨z100, rfl, h101, g98, f99⟩
      show WP 28 30 [(0, .ref 9), (1, iV z61)] [iV z100] _ _ _ _
      refine wp_ri jF_28_30 rfl ?_
      have q102 : (τ97.1 10 1) = 0 := ((FR.at f99 10 1 rfl).trans e66)
      have b103 := GI.b g59 33 5 kd33 (lo := 0) (hi := 16) rfl
      have q104 : (τ97.1 33 5) = (τ58.1 33 5) := ((FR.at f99 33 5 rfl).trans (FRw.na f65 (by decide)))
      have b105 := GI.b g59 39 5 kd39 (lo := 0) (hi := 16) rfl
      have q106 : (τ97.1 39 5) = (τ58.1 39 5) := ((FR.at f99 39 5 rfl).trans (FRw.na f65 (by decide)))
      have b107 := GI.b hg 58 5 kd58 (lo := 0) (hi := 16) rfl
      have q108 : (τ97.1 58 5) = (σ.1 58 5) := ((FR.at f99 58 5 rfl).trans ((FRw.na f65 (by decide)).trans (FR.at f60 58 5 rfl)))
      have b109 := GI.b hg 64 5 kd64 (lo := 0) (hi := 16) rfl
      have q110 : (τ97.1 64 5) = (σ.1 64 5) := ((FR.at f99 64 5 rfl).trans ((FRw.na f65 (by decide)).trans (FR.at f60 64 5 rfl)))
      exact ⟨z100, rfl, ⟨by omega, by omega⟩, g98, (FR.up (FR.w (FR.up FR.rf f60 sb_WR20_WXt) f65 rfl) f99 sb_WXr_WXt), (Or.inr ⟨((FR.ar f99 9 4 rfl).trans ((FRw.nar f65 (by decide)).trans ((FR.ar f60 9 4 rfl).trans hs1))), ((FR.ar f99 9 5 rfl).trans ((FRw.nar f65 (by decide)).trans ((FR.ar f60 9 5 rfl).trans hs2)))⟩), (by omega), (by omega), (by omega), (by omega), (by omega)⟩
set_option maxHeartbeats 4000000 in
set_option maxRecDepth 20000 in
/-- X.law -/
theorem m_74_r9 (σ : jM) (hg : GI σ) (other : Int) (hl_other : 0 ≤ other) (hu_other : other ≤ 1) (hsp : SPK σ)  (fr lo : Nat) (hfr : 5 ≤ fr) (hlo : 121 ≤ lo) : WP 74 0 (lv_args 0 [.ref 9, iV other]) [] fr lo σ (fun v τ => ∃ z : Int, v = some (iV z) ∧ ((-2147483648) ≤ z ∧ z ≤ 2147483647) ∧ GI τ ∧ FR WXl σ τ ∧ ((τ.1 10 1) = 0)) := by
  rcases hsp with ⟨hs1, hs2⟩ | ⟨hs1, hs2⟩
  · skip
    show WP 74 0 [(0, .ref 9), (1, iV other)] [] _ _ _ _
    refine wp_al1 jF_74_0 rfl rfl (pc2 := 1) ?_
    refine wp_gr (b := 14) jF_74_1 kd9 (by decide) (c := 114) rfl rfl rfl (pc2 := 4) ?_
    refine wp_al1 jF_74_4 rfl rfl (pc2 := 5) ?_
    refine wp_gr jF_74_5 kd9 (by decide) (c := 2) rfl (m_fv2 hs1 rfl) rfl (pc2 := 8) ?_
    refine wp_al1 jF_74_8 rfl rfl (pc2 := 9) ?_
    refine wp_gr (b := 80) jF_74_9 kd9 (by decide) (c := 180) rfl rfl rfl (pc2 := 12) ?_
    refine wp_cV (as := [.ref 20, .ref 80]) (rest := []) (a := 14) (mx := 7) (ci := 2) jF_74_12 kd14 (by decide) rfl rfl rfl rfl rfl (by omega) (by omega) rfl (pc2 := 15) ?_
    refine wp_use (m_75_r14_20_80 σ hg   _ _ (by omega) (by omega)) ?_
    rintro _ τ1 ⟨z4, rfl, h5, g2, f3⟩
    show WP 74 15 [(0, .ref 9), (1, iV other)] [iV z4] _ _ _ _
    refine wp_is1 (lv2 := [(0, .ref 9), (1, iV other), (2, iV z4)]) jF_74_15 rfl rfl rfl (pc2 := 16) ?_
    refine wp_al1 jF_74_16 rfl rfl (pc2 := 17) ?_
    refine wp_gr (b := 10) jF_74_17 kd9 (by decide) (c := 110) rfl rfl rfl (pc2 := 20) ?_
    refine wp_ic jF_74_20 rfl (pc2 := 21) ?_
    refine wp_pi jF_74_21 kd10 (by decide) rfl rfl rfl (pc2 := 24) g2 (lo := 0) (hi := 1600) rfl (by omega) (by omega) ?_
    intro τ6 g7 f8 e9
    refine wp_il1 jF_74_24 rfl rfl (pc2 := 25) ?_
    refine wp_z_ne jF_74_25 (m_rgb h5 rfl) rfl (pc2 := 28) ?_ ?_
    · intro h10
      refine wp_al1 jF_74_34 rfl rfl (pc2 := 35) ?_
      refine wp_gr (b := 80) jF_74_35 kd9 (by decide) (c := 180) rfl rfl rfl (pc2 := 38) ?_
      refine wp_al1 jF_74_38 rfl rfl (pc2 := 39) ?_
      refine wp_gr jF_74_39 kd9 (by decide) (c := 2) rfl (m_fv2 ((FRw.nar f8 (by decide)).trans ((FR.ar f3 9 4 rfl).trans hs1)) rfl) rfl (pc2 := 42) ?_
      refine wp_cV (as := [.ref 20]) (rest := []) (a := 80) (mx := 4) (ci := 4) jF_74_42 kd80 (by decide) rfl rfl rfl rfl rfl (by omega) (by omega) rfl (pc2 := 45) ?_
      refine wp_use (m_82_r80_20 τ6 g7   _ _ (by omega) (by omega)) ?_
      rintro _ τ11 ⟨rfl, g12, f13⟩
      show WP 74 45 [(0, .ref 9), (1, iV other), (2, iV z4)] [] _ _ _ _
      refine wp_il1 jF_74_45 rfl rfl (pc2 := 46) ?_
      refine wp_z_eq jF_74_46 ⟨by omega, by omega⟩ rfl (pc2 := 49) ?_ ?_
      · intro h14
        refine wp_al1 jF_74_79 rfl rfl (pc2 := 80) ?_
        refine wp_gr jF_74_80 kd9 (by decide) (c := 2) rfl (m_fv2 ((FR.ar f13 9 4 rfl).trans ((FRw.nar f8 (by decide)).trans ((FR.ar f3 9 4 rfl).trans hs1))) rfl) rfl (pc2 := 83) ?_
        refine wp_al1 jF_74_83 rfl rfl (pc2 := 84) ?_
        refine wp_gr (b := 80) jF_74_84 kd9 (by decide) (c := 180) rfl rfl rfl (pc2 := 87) ?_
        refine wp_glA jF_74_87 kd80 (by decide) rfl rfl (pc2 := 90) ?_
        intro y15
        refine wp_cV (as := [.long y15]) (rest := []) (a := 20) (mx := 3) (ci := 8) jF_74_90 kd20 (by decide) rfl rfl rfl rfl rfl (by omega) (by omega) rfl (pc2 := 93) ?_
        refine wp_use (m_85_r20 τ11 g12 y15  _ _ (by omega) (by omega)) ?_
        rintro _ _ ⟨z18, rfl, h19, rfl⟩
        show WP 74 93 [(0, .ref 9), (1, iV other), (2, iV z4)] [iV z18] _ _ _ _
        refine wp_z_ne jF_74_93 (m_rgb h19 rfl) rfl (pc2 := 96) ?_ ?_
        · intro h20
          refine wp_al1 jF_74_105 rfl rfl (pc2 := 106) ?_
          refine wp_cV (as := []) (rest := []) (a := 9) (mx := 1) (ci := 11) jF_74_106 kd9 (by decide) rfl rfl rfl rfl rfl (by omega) (by omega) rfl (pc2 := 109) ?_
          refine wp_use (m_87_r9 τ11 g12  (Or.inl ⟨((FR.ar f13 9 4 rfl).trans ((FRw.nar f8 (by decide)).trans ((FR.ar f3 9 4 rfl).trans hs1))), ((FR.ar f13 9 5 rfl).trans ((FRw.nar f8 (by decide)).trans ((FR.ar f3 9 5 rfl).trans hs2)))⟩)  _ _ (by omega) (by omega)) ?_
          rintro _ τ21 ⟨z24, rfl, h25, g22, f23⟩
          show WP 74 109 [(0, .ref 9), (1, iV other), (2, iV z4)] [iV z24] _ _ _ _
          refine wp_ri jF_74_109 rfl ?_
          have q26 : (τ21.1 10 1) = 0 := ((FR.at f23 10 1 rfl).trans ((FR.at f13 10 1 rfl).trans e9))
          exact ⟨z24, rfl, ⟨by omega, by omega⟩, g22, (FR.up (FR.up (FR.w (FR.up FR.rf f3 sb_WL80_WXl) f8 rfl) f13 sb_WW80_WXl) f23 sb_WXg_WXl), (by omega)⟩
        · intro h20
          refine wp_al1 jF_74_96 rfl rfl (pc2 := 97) ?_
          refine wp_ic jF_74_97 rfl (pc2 := 98) ?_
          refine wp_cV (as := [iV 1]) (rest := []) (a := 9) (mx := 2) (ci := 11) jF_74_98 kd9 (by decide) rfl rfl rfl rfl rfl (by omega) (by omega) rfl (pc2 := 101) ?_
          refine wp_use (m_25_r9 τ11 g12 1 (by omega) (by omega)  _ _ (by omega) (by omega)) ?_
          rintro _ τ27 ⟨z30, rfl, h31, g28, f29⟩
          show WP 74 101 [(0, .ref 9), (1, iV other), (2, iV z4)] [iV z30] _ _ _ _
          refine wp_pop jF_74_101 rfl rfl (pc2 := 102) ?_
          refine wp_bi jF_74_102 (by decide) rfl (pc2 := 104) ?_
          refine wp_ri jF_74_104 rfl ?_
          have q32 : (τ27.1 10 1) = 0 := ((FR.at f29 10 1 rfl).trans ((FR.at f13 10 1 rfl).trans e9))
          exact ⟨(-2), rfl, ⟨by omega, by omega⟩, g28, (FR.up (FR.up (FR.w (FR.up FR.rf f3 sb_WL80_WXl) f8 rfl) f13 sb_WW80_WXl) f29 sb_WXr_WXl), (by omega)⟩
      · intro h14
        refine wp_al1 jF_74_49 rfl rfl (pc2 := 50) ?_
        refine wp_gr (b := 75) jF_74_50 kd9 (by decide) (c := 175) rfl rfl rfl (pc2 := 53) ?_
        refine wp_al1 jF_74_53 rfl rfl (pc2 := 54) ?_
        refine wp_gr (b := 80) jF_74_54 kd9 (by decide) (c := 180) rfl rfl rfl (pc2 := 57) ?_
        refine wp_cV (as := [.ref 80]) (rest := []) (a := 75) (mx := 2) (ci := 4) jF_74_57 kd75 (by decide) rfl rfl rfl rfl rfl (by omega) (by omega) rfl (pc2 := 60) ?_
        refine wp_use (m_84_r75_80 τ11 g12   _ _ (by omega) (by omega)) ?_
        rintro _ τ33 ⟨rfl, g34, f35⟩
        show WP 74 60 [(0, .ref 9), (1, iV other), (2, iV z4)] [] _ _ _ _
        refine wp_al1 jF_74_60 rfl rfl (pc2 := 61) ?_
        refine wp_gr (b := 75) jF_74_61 kd9 (by decide) (c := 175) rfl rfl rfl (pc2 := 64) ?_
        refine wp_al1 jF_74_64 rfl rfl (pc2 := 65) ?_
        refine wp_gr jF_74_65 kd9 (by decide) (c := 2) rfl (m_fv2 ((FR.ar f35 9 4 rfl).trans ((FR.ar f13 9 4 rfl).trans ((FRw.nar f8 (by decide)).trans ((FR.ar f3 9 4 rfl).trans hs1)))) rfl) rfl (pc2 := 68) ?_
        refine wp_cV (as := [.ref 20]) (rest := []) (a := 75) (mx := 4) (ci := 4) jF_74_68 kd75 (by decide) rfl rfl rfl rfl rfl (by omega) (by omega) rfl (pc2 := 71) ?_
        refine wp_use (m_82_r75_20 τ33 g34   _ _ (by omega) (by omega)) ?_
        rintro _ τ36 ⟨rfl, g37, f38⟩
        show WP 74 71 [(0, .ref 9), (1, iV other), (2, iV z4)] [] _ _ _ _
        refine wp_al1 jF_74_71 rfl rfl (pc2 := 72) ?_
        refine wp_gr (b := 75) jF_74_72 kd9 (by decide) (c := 175) rfl rfl rfl (pc2 := 75) ?_
        have b39 := GI.b g37 75 2 kd75 (lo := (-2147483648)) (hi := 2147483647) rfl
        refine wp_gi jF_74_75 kd75 (by decide) rfl rfl rfl (pc2 := 78) ?_
        refine wp_ri jF_74_78 rfl ?_
        have q40 : (τ36.1 10 1) = 0 := ((FR.at f38 10 1 rfl).trans ((FR.at f35 10 1 rfl).trans ((FR.at f13 10 1 rfl).trans e9)))
        exact ⟨(τ36.1 75 2), rfl, ⟨by omega, by omega⟩, g37, (FR.up (FR.up (FR.up (FR.w (FR.up FR.rf f3 sb_WL80_WXl) f8 rfl) f13 sb_WW80_WXl) f35 sb_WW75_WXl) f38 sb_WW75_WXl), (by omega)⟩
    · intro h10
      refine wp_al1 jF_74_28 rfl rfl (pc2 := 29) ?_
      refine wp_ic jF_74_29 rfl (pc2 := 30) ?_
      refine wp_cV (as := [iV 1]) (rest := []) (a := 9) (mx := 2) (ci := 11) jF_74_30 kd9 (by decide) rfl rfl rfl rfl rfl (by omega) (by omega) rfl (pc2 := 33) ?_
      refine wp_use (m_25_r9 τ6 g7 1 (by omega) (by omega)  _ _ (by omega) (by omega)) ?_
      rintro _ τ41 ⟨z44, rfl, h45, g42, f43⟩
      show WP 74 33 [(0, .ref 9), (1, iV other), (2, iV z4)] [iV z44] _ _ _ _
      refine wp_ri jF_74_33 rfl ?_
      have q46 : (τ41.1 10 1) = 0 := ((FR.at f43 10 1 rfl).trans e9)
      exact ⟨z44, rfl, ⟨by omega, by omega⟩, g42, (FR.up (FR.w (FR.up FR.rf f3 sb_WL80_WXl) f8 rfl) f43 sb_WXr_WXl), (by omega)⟩
  · skip
    show WP 74 0 [(0, .ref 9), (1, iV other)] [] _ _ _ _
    refine wp_al1 jF_74_0 rfl rfl (pc2 := 1) ?_
    refine wp_gr (b := 14) jF_74_1 kd9 (by decide) (c := 114) rfl rfl rfl (pc2 := 4) ?_
    refine wp_al1 jF_74_4 rfl rfl (pc2 := 5) ?_
    refine wp_gr jF_74_5 kd9 (by decide) (c := 2) rfl (m_fv2 hs1 rfl) rfl (pc2 := 8) ?_
    refine wp_al1 jF_74_8 rfl rfl (pc2 := 9) ?_
    refine wp_gr (b := 80) jF_74_9 kd9 (by decide) (c := 180) rfl rfl rfl (pc2 := 12) ?_
    refine wp_cV (as := [.ref 45, .ref 80]) (rest := []) (a := 14) (mx := 7) (ci := 2) jF_74_12 kd14 (by decide) rfl rfl rfl rfl rfl (by omega) (by omega) rfl (pc2 := 15) ?_
    refine wp_use (m_75_r14_45_80 σ hg   _ _ (by omega) (by omega)) ?_
    rintro _ τ47 ⟨z50, rfl, h51, g48, f49⟩
    show WP 74 15 [(0, .ref 9), (1, iV other)] [iV z50] _ _ _ _
    refine wp_is1 (lv2 := [(0, .ref 9), (1, iV other), (2, iV z50)]) jF_74_15 rfl rfl rfl (pc2 := 16) ?_
    refine wp_al1 jF_74_16 rfl rfl (pc2 := 17) ?_
    refine wp_gr (b := 10) jF_74_17 kd9 (by decide) (c := 110) rfl rfl rfl (pc2 := 20) ?_
    refine wp_ic jF_74_20 rfl (pc2 := 21) ?_
    refine wp_pi jF_74_21 kd10 (by decide) rfl rfl rfl (pc2 := 24) g48 (lo := 0) (hi := 1600) rfl (by omega) (by omega) ?_
    intro τ52 g53 f54 e55
    refine wp_il1 jF_74_24 rfl rfl (pc2 := 25) ?_
    refine wp_z_ne jF_74_25 (m_rgb h51 rfl) rfl (pc2 := 28) ?_ ?_
    · intro h56
      refine wp_al1 jF_74_34 rfl rfl (pc2 := 35) ?_
      refine wp_gr (b := 80) jF_74_35 kd9 (by decide) (c := 180) rfl rfl rfl (pc2 := 38) ?_
      refine wp_al1 jF_74_38 rfl rfl (pc2 := 39) ?_
      refine wp_gr jF_74_39 kd9 (by decide) (c := 2) rfl (m_fv2 ((FRw.nar f54 (by decide)).trans ((FR.ar f49 9 4 rfl).trans hs1)) rfl) rfl (pc2 := 42) ?_
      refine wp_cV (as := [.ref 45]) (rest := []) (a := 80) (mx := 4) (ci := 4) jF_74_42 kd80 (by decide) rfl rfl rfl rfl rfl (by omega) (by omega) rfl (pc2 := 45) ?_
      refine wp_use (m_82_r80_45 τ52 g53   _ _ (by omega) (by omega)) ?_
      rintro _ τ57 ⟨rfl, g58, f59⟩
      show WP 74 45 [(0, .ref 9), (1, iV other), (2, iV z50)] [] _ _ _ _
      refine wp_il1 jF_74_45 rfl rfl (pc2 := 46) ?_
      refine wp_z_eq jF_74_46 ⟨by omega, by omega⟩ rfl (pc2 := 49) ?_ ?_
      · intro h60
        refine wp_al1 jF_74_79 rfl rfl (pc2 := 80) ?_
        refine wp_gr jF_74_80 kd9 (by decide) (c := 2) rfl (m_fv2 ((FR.ar f59 9 4 rfl).trans ((FRw.nar f54 (by decide)).trans ((FR.ar f49 9 4 rfl).trans hs1))) rfl) rfl (pc2 := 83) ?_
        refine wp_al1 jF_74_83 rfl rfl (pc2 := 84) ?_
        refine wp_gr (b := 80) jF_74_84 kd9 (by decide) (c := 180) rfl rfl rfl (pc2 := 87) ?_
        refine wp_glA jF_74_87 kd80 (by decide) rfl rfl (pc2 := 90) ?_
        intro y61
        refine wp_cV (as := [.long y61]) (rest := []) (a := 45) (mx := 3) (ci := 8) jF_74_90 kd45 (by decide) rfl rfl rfl rfl rfl (by omega) (by omega) rfl (pc2 := 93) ?_
        refine wp_use (m_85_r45 τ57 g58 y61  _ _ (by omega) (by omega)) ?_
        rintro _ _ ⟨z64, rfl, h65, rfl⟩
        show WP 74 93 [(0, .ref 9), (1, iV other), (2, iV z50)] [iV z64] _ _ _ _
        refine wp_z_ne jF_74_93 (m_rgb h65 rfl) rfl (pc2 := 96) ?_ ?_
        · intro h66
          refine wp_al1 jF_74_105 rfl rfl (pc2 := 106) ?_
          refine wp_cV (as := []) (rest := []) (a := 9) (mx := 1) (ci := 11) jF_74_106 kd9 (by decide) rfl rfl rfl rfl rfl (by omega) (by omega) rfl (pc2 := 109) ?_
          refine wp_use (m_87_r9 τ57 g58  (Or.inr ⟨((FR.ar f59 9 4 rfl).trans ((FRw.nar f54 (by decide)).trans ((FR.ar f49 9 4 rfl).trans hs1))), ((FR.ar f59 9 5 rfl).trans ((FRw.nar f54 (by decide)).trans ((FR.ar f49 9 5 rfl).trans hs2)))⟩)  _ _ (by omega) (by omega)) ?_
          rintro _ τ67 ⟨z70, rfl, h71, g68, f69⟩
          show WP 74 109 [(0, .ref 9), (1, iV other), (2, iV z50)] [iV z70] _ _ _ _
          refine wp_ri jF_74_109 rfl ?_
          have q72 : (τ67.1 10 1) = 0 := ((FR.at f69 10 1 rfl).trans ((FR.at f59 10 1 rfl).trans e55))
          exact ⟨z70, rfl, ⟨by omega, by omega⟩, g68, (FR.up (FR.up (FR.w (FR.up FR.rf f49 sb_WL80_WXl) f54 rfl) f59 sb_WW80_WXl) f69 sb_WXg_WXl), (by omega)⟩
        · intro h66
          refine wp_al1 jF_74_96 rfl rfl (pc2 := 97) ?_
          refine wp_ic jF_74_97 rfl (pc2 := 98) ?_
          refine wp_cV (as := [iV 1]) (rest := []) (a := 9) (mx := 2) (ci := 11) jF_74_98 kd9 (by decide) rfl rfl rfl rfl rfl (by omega) (by omega) rfl (pc2 := 101) ?_
          refine wp_use (m_25_r9 τ57 g58 1 (by omega) (by omega)  _ _ (by omega) (by omega)) ?_
          rintro _ τ73 ⟨z76, rfl, h77, g74, f75⟩
          show WP 74 101 [(0, .ref 9), (1, iV other), (2, iV z50)] [iV z76] _ _ _ _
          refine wp_pop jF_74_101 rfl rfl (pc2 := 102) ?_
          refine wp_bi jF_74_102 (by decide) rfl (pc2 := 104) ?_
          refine wp_ri jF_74_104 rfl ?_
          have q78 : (τ73.1 10 1) = 0 := ((FR.at f75 10 1 rfl).trans ((FR.at f59 10 1 rfl).trans e55))
          exact ⟨(-2), rfl, ⟨by omega, by omega⟩, g74, (FR.up (FR.up (FR.w (FR.up FR.rf f49 sb_WL80_WXl) f54 rfl) f59 sb_WW80_WXl) f75 sb_WXr_WXl), (by omega)⟩
      · intro h60
        refine wp_al1 jF_74_49 rfl rfl (pc2 := 50) ?_
        refine wp_gr (b := 75) jF_74_50 kd9 (by decide) (c := 175) rfl rfl rfl (pc2 := 53) ?_
        refine wp_al1 jF_74_53 rfl rfl (pc2 := 54) ?_
        refine wp_gr (b := 80) jF_74_54 kd9 (by decide) (c := 180) rfl rfl rfl (pc2 := 57) ?_
        refine wp_cV (as := [.ref 80]) (rest := []) (a := 75) (mx := 2) (ci := 4) jF_74_57 kd75 (by decide) rfl rfl rfl rfl rfl (by omega) (by omega) rfl (pc2 := 60) ?_
        refine wp_use (m_84_r75_80 τ57 g58   _ _ (by omega) (by omega)) ?_
        rintro _ τ79 ⟨rfl, g80, f81⟩
        show WP 74 60 [(0, .ref 9), (1, iV other), (2, iV z50)] [] _ _ _ _
        refine wp_al1 jF_74_60 rfl rfl (pc2 := 61) ?_
        refine wp_gr (b := 75) jF_74_61 kd9 (by decide) (c := 175) rfl rfl rfl (pc2 := 64) ?_
        refine wp_al1 jF_74_64 rfl rfl (pc2 := 65) ?_
        refine wp_gr jF_74_65 kd9 (by decide) (c := 2) rfl (m_fv2 ((FR.ar f81 9 4 rfl).trans ((FR.ar f59 9 4 rfl).trans ((FRw.nar f54 (by decide)).trans ((FR.ar f49 9 4 rfl).trans hs1)))) rfl) rfl (pc2 := 68) ?_
        refine wp_cV (as := [.ref 45]) (rest := []) (a := 75) (mx := 4) (ci := 4) jF_74_68 kd75 (by decide) rfl rfl rfl rfl rfl (by omega) (by omega) rfl (pc2 := 71) ?_
        refine wp_use (m_82_r75_45 τ79 g80   _ _ (by omega) (by omega)) ?_
        rintro _ τ82 ⟨rfl, g83, f84⟩
        show WP 74 71 [(0, .ref 9), (1, iV other), (2, iV z50)] [] _ _ _ _
        refine wp_al1 jF_74_71 rfl rfl (pc2 := 72) ?_
        refine wp_gr (b := 75) jF_74_72 kd9 (by decide) (c := 175) rfl rfl rfl (pc2 := 75) ?_
        have b85 := GI.b g83 75 2 kd75 (lo := (-2147483648)) (hi := 2147483647) rfl
        refine wp_gi jF_74_75 kd75 (by decide) rfl rfl rfl (pc2 := 78) ?_
        refine wp_ri jF_74_78 rfl ?_
        have q86 : (τ82.1 10 1) = 0 := ((FR.at f84 10 1 rfl).trans ((FR.at f81 10 1 rfl).trans ((FR.at f59 10 1 rfl).trans e55)))
        exact ⟨(τ82.1 75 2), rfl, ⟨by omega, by omega⟩, g83, (FR.up (FR.up (FR.up (FR.w (FR.up FR.rf f49 sb_WL80_WXl) f54 rfl) f59 sb_WW80_WXl) f81 sb_WW75_WXl) f84 sb_WW75_WXl), (by omega)⟩
    · intro h56
      refine wp_al1 jF_74_28 rfl rfl (pc2 := 29) ?_
      refine wp_ic jF_74_29 rfl (pc2 := 30) ?_
      refine wp_cV (as := [iV 1]) (rest := []) (a := 9) (mx := 2) (ci := 11) jF_74_30 kd9 (by decide) rfl rfl rfl rfl rfl (by omega) (by omega) rfl (pc2 := 33) ?_
      refine wp_use (m_25_r9 τ52 g53 1 (by omega) (by omega)  _ _ (by omega) (by omega)) ?_
      rintro _ τ87 ⟨z90, rfl, h91, g88, f89⟩
      show WP 74 33 [(0, .ref 9), (1, iV other), (2, iV z50)] [iV z90] _ _ _ _
      refine wp_ri jF_74_33 rfl ?_
      have q92 : (τ87.1 10 1) = 0 := ((FR.at f89 10 1 rfl).trans e55)
      exact ⟨z90, rfl, ⟨by omega, by omega⟩, g88, (FR.up (FR.w (FR.up FR.rf f49 sb_WL80_WXl) f54 rfl) f89 sb_WXr_WXl), (by omega)⟩
set_option maxHeartbeats 4000000 in
set_option maxRecDepth 20000 in
/-- X.fault -/
theorem m_89_r9 (σ : jM) (hg : GI σ) (what : Int) (hl_what : (-2147483648) ≤ what) (hu_what : what ≤ 2147483647)  (fr lo : Nat) (hfr : 0 ≤ fr) (hlo : 0 ≤ lo) : WP 89 0 (lv_args 0 [.ref 9, iV what]) [] fr lo σ (fun v τ => ∃ z : Int, v = some (iV z) ∧ ((-2147483648) ≤ z ∧ z ≤ 2147483647) ∧ σ = τ) := by
  show WP 89 0 [(0, .ref 9), (1, iV what)] [] _ _ _ _
  refine wp_il1 jF_89_0 rfl rfl (pc2 := 1) ?_
  refine wp_z_ne jF_89_1 ⟨by omega, by omega⟩ rfl (pc2 := 4) ?_ ?_
  · intro h1
    refine wp_il1 jF_89_12 rfl rfl (pc2 := 13) ?_
    refine wp_ic jF_89_13 rfl (pc2 := 14) ?_
    refine wp_i_ne jF_89_14 ⟨by omega, by omega⟩ (m_rgl rfl) rfl (pc2 := 17) ?_ ?_
    · intro h2
      refine wp_ic jF_89_27 rfl (pc2 := 28) ?_
      refine wp_ri jF_89_28 rfl ?_
      exact ⟨(-1), rfl, ⟨by omega, by omega⟩, rfl⟩
    · intro h2
      refine wp_al1 jF_89_17 rfl rfl (pc2 := 18) ?_
      refine wp_gr (b := 10) jF_89_18 kd9 (by decide) (c := 110) rfl rfl rfl (pc2 := 21) ?_
      have b3 := GI.b hg 10 4 kd10 (lo := (-2147483648)) (hi := 2147483647) rfl
      refine wp_gi jF_89_21 kd10 (by decide) rfl rfl rfl (pc2 := 24) ?_
      refine wp_go jF_89_24 ?_
      refine wp_ri jF_89_28 rfl ?_
      exact ⟨(σ.1 10 4), rfl, ⟨by omega, by omega⟩, rfl⟩
  · intro h1
    refine wp_al1 jF_89_4 rfl rfl (pc2 := 5) ?_
    refine wp_gr (b := 10) jF_89_5 kd9 (by decide) (c := 110) rfl rfl rfl (pc2 := 8) ?_
    have b4 := GI.b hg 10 3 kd10 (lo := (-2147483648)) (hi := 2147483647) rfl
    refine wp_gi jF_89_8 kd10 (by decide) rfl rfl rfl (pc2 := 11) ?_
    refine wp_ri jF_89_11 rfl ?_
    exact ⟨(σ.1 10 3), rfl, ⟨by omega, by omega⟩, rfl⟩
set_option maxHeartbeats 4000000 in
set_option maxRecDepth 20000 in
/-- X.has -/
theorem m_90_r9 (σ : jM) (hg : GI σ) (what : Int) (hl_what : (-2147483648) ≤ what) (hu_what : what ≤ 2147483647) (hsp : SPK σ)  (fr lo : Nat) (hfr : 1 ≤ fr) (hlo : 21 ≤ lo) : WP 90 0 (lv_args 0 [.ref 9, iV what]) [] fr lo σ (fun v τ => ∃ z : Int, v = some (iV z) ∧ ((-2147483648) ≤ z ∧ z ≤ 2147483647) ∧ σ = τ) := by
  rcases hsp with ⟨hs1, hs2⟩ | ⟨hs1, hs2⟩
  · skip
    show WP 90 0 [(0, .ref 9), (1, iV what)] [] _ _ _ _
    refine wp_il1 jF_90_0 rfl rfl (pc2 := 1) ?_
    refine wp_bi jF_90_1 (by decide) rfl (pc2 := 3) ?_
    refine wp_i_ne jF_90_3 ⟨by omega, by omega⟩ (m_rgl rfl) rfl (pc2 := 6) ?_ ?_
    · intro h1
      refine wp_al1 jF_90_16 rfl rfl (pc2 := 17) ?_
      refine wp_gr jF_90_17 kd9 (by decide) (c := 2) rfl (m_fv2 hs1 rfl) rfl (pc2 := 20) ?_
      refine wp_il1 jF_90_20 rfl rfl (pc2 := 21) ?_
      refine wp_cV (as := [iV what]) (rest := []) (a := 20) (mx := 2) (ci := 8) jF_90_21 kd20 (by decide) rfl rfl rfl rfl rfl (by omega) (by omega) rfl (pc2 := 24) ?_
      refine wp_use (m_91_r20 σ hg what (by omega) (by omega)  _ _ (by omega) (by omega)) ?_
      rintro _ _ ⟨z4, rfl, h5, rfl⟩
      show WP 90 24 [(0, .ref 9), (1, iV what)] [iV z4] _ _ _ _
      refine wp_ri jF_90_24 rfl ?_
      exact ⟨z4, rfl, ⟨by omega, by omega⟩, rfl⟩
    · intro h1
      refine wp_al1 jF_90_6 rfl rfl (pc2 := 7) ?_
      refine wp_gr (b := 90) jF_90_7 kd9 (by decide) (c := 190) rfl rfl rfl (pc2 := 10) ?_
      have b6 := GI.b hg 90 3 kd90 (lo := 0) (hi := 20) rfl
      refine wp_gi jF_90_10 kd90 (by decide) rfl rfl rfl (pc2 := 13) ?_
      refine wp_go jF_90_13 ?_
      refine wp_ri jF_90_24 rfl ?_
      exact ⟨(σ.1 90 3), rfl, ⟨by omega, by omega⟩, rfl⟩
  · skip
    show WP 90 0 [(0, .ref 9), (1, iV what)] [] _ _ _ _
    refine wp_il1 jF_90_0 rfl rfl (pc2 := 1) ?_
    refine wp_bi jF_90_1 (by decide) rfl (pc2 := 3) ?_
    refine wp_i_ne jF_90_3 ⟨by omega, by omega⟩ (m_rgl rfl) rfl (pc2 := 6) ?_ ?_
    · intro h7
      refine wp_al1 jF_90_16 rfl rfl (pc2 := 17) ?_
      refine wp_gr jF_90_17 kd9 (by decide) (c := 2) rfl (m_fv2 hs1 rfl) rfl (pc2 := 20) ?_
      refine wp_il1 jF_90_20 rfl rfl (pc2 := 21) ?_
      refine wp_cV (as := [iV what]) (rest := []) (a := 45) (mx := 2) (ci := 8) jF_90_21 kd45 (by decide) rfl rfl rfl rfl rfl (by omega) (by omega) rfl (pc2 := 24) ?_
      refine wp_use (m_91_r45 σ hg what (by omega) (by omega)  _ _ (by omega) (by omega)) ?_
      rintro _ _ ⟨z10, rfl, h11, rfl⟩
      show WP 90 24 [(0, .ref 9), (1, iV what)] [iV z10] _ _ _ _
      refine wp_ri jF_90_24 rfl ?_
      exact ⟨z10, rfl, ⟨by omega, by omega⟩, rfl⟩
    · intro h7
      refine wp_al1 jF_90_6 rfl rfl (pc2 := 7) ?_
      refine wp_gr (b := 90) jF_90_7 kd9 (by decide) (c := 190) rfl rfl rfl (pc2 := 10) ?_
      have b12 := GI.b hg 90 3 kd90 (lo := 0) (hi := 20) rfl
      refine wp_gi jF_90_10 kd90 (by decide) rfl rfl rfl (pc2 := 13) ?_
      refine wp_go jF_90_13 ?_
      refine wp_ri jF_90_24 rfl ?_
      exact ⟨(σ.1 90 3), rfl, ⟨by omega, by omega⟩, rfl⟩
set_option maxHeartbeats 4000000 in
set_option maxRecDepth 20000 in
/-- X.letter -/
theorem m_92_r9 (σ : jM) (hg : GI σ) (sg : Int) (hl_sg : (-2147483648) ≤ sg) (hu_sg : sg ≤ 2147483647) (k : Int) (hl_k : (-2147483648) ≤ k) (hu_k : k ≤ 2147483647) (hsp : SPK σ)  (fr lo : Nat) (hfr : 1 ≤ fr) (hlo : 22 ≤ lo) : WP 92 0 (lv_args 0 [.ref 9, iV sg, iV k]) [] fr lo σ (fun v τ => ∃ z : Int, v = some (iV z) ∧ ((-2147483648) ≤ z ∧ z ≤ 2147483647) ∧ σ = τ) := by
  rcases hsp with ⟨hs1, hs2⟩ | ⟨hs1, hs2⟩
  · skip
    show WP 92 0 [(0, .ref 9), (1, iV sg), (2, iV k)] [] _ _ _ _
    refine wp_al1 jF_92_0 rfl rfl (pc2 := 1) ?_
    refine wp_gr jF_92_1 kd9 (by decide) (c := 2) rfl (m_fv2 hs1 rfl) rfl (pc2 := 4) ?_
    refine wp_il1 jF_92_4 rfl rfl (pc2 := 5) ?_
    refine wp_il1 jF_92_5 rfl rfl (pc2 := 6) ?_
    refine wp_cV (as := [iV sg, iV k]) (rest := []) (a := 20) (mx := 3) (ci := 8) jF_92_6 kd20 (by decide) rfl rfl rfl rfl rfl (by omega) (by omega) rfl (pc2 := 9) ?_
    refine wp_use (m_93_r20 σ hg sg (by omega) (by omega) k (by omega) (by omega)  _ _ (by omega) (by omega)) ?_
    rintro _ _ ⟨z3, rfl, h4, rfl⟩
    show WP 92 9 [(0, .ref 9), (1, iV sg), (2, iV k)] [iV z3] _ _ _ _
    refine wp_ri jF_92_9 rfl ?_
    exact ⟨z3, rfl, ⟨by omega, by omega⟩, rfl⟩
  · skip
    show WP 92 0 [(0, .ref 9), (1, iV sg), (2, iV k)] [] _ _ _ _
    refine wp_al1 jF_92_0 rfl rfl (pc2 := 1) ?_
    refine wp_gr jF_92_1 kd9 (by decide) (c := 2) rfl (m_fv2 hs1 rfl) rfl (pc2 := 4) ?_
    refine wp_il1 jF_92_4 rfl rfl (pc2 := 5) ?_
    refine wp_il1 jF_92_5 rfl rfl (pc2 := 6) ?_
    refine wp_cV (as := [iV sg, iV k]) (rest := []) (a := 45) (mx := 3) (ci := 8) jF_92_6 kd45 (by decide) rfl rfl rfl rfl rfl (by omega) (by omega) rfl (pc2 := 9) ?_
    refine wp_use (m_93_r45 σ hg sg (by omega) (by omega) k (by omega) (by omega)  _ _ (by omega) (by omega)) ?_
    rintro _ _ ⟨z7, rfl, h8, rfl⟩
    show WP 92 9 [(0, .ref 9), (1, iV sg), (2, iV k)] [iV z7] _ _ _ _
    refine wp_ri jF_92_9 rfl ?_
    exact ⟨z7, rfl, ⟨by omega, by omega⟩, rfl⟩
