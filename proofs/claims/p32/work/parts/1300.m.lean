set_option maxHeartbeats 4000000 in
set_option maxRecDepth 20000 in
/-- M.look -/
theorem m_216 (σ : jM) (hg : GI σ)   (fr lo : Nat) (hfr : 0 ≤ fr) (hlo : 0 ≤ lo) : WP 216 0 (lv_args 0 [.ref 117]) [] fr lo σ (fun v τ => ∃ z : Int, v = some (iV z) ∧ ((-1) ≤ z ∧ z ≤ 255) ∧ GI τ ∧ FR Wat σ τ ∧ (0 ≤ z → (τ.1 117 2) < (σ.1 117 3)) ∧ ((σ.1 117 2) ≤ (τ.1 117 2)) ∧ (z = (ch τ)) ∧ ((nb τ) = 1) ∧ ((nb σ) = 1 → ((τ.1 117 2) = (σ.1 117 2) ∧ (ch τ) = (ch σ) ∧ (nb τ) = 1)) ∧ (0 ≤ z → z = (σ.1 118 (τ.1 117 2).toNat))) := by
  show WP 216 0 [(0, .ref 117)] [] _ _ _ _
  have b1 := GI.b hg 117 2 kd117 (lo := 0) (hi := 1601) rfl
  refine wp_loop (α := Unit) (fun a => [(0, .ref 117)]) (fun a τ => GI τ ∧ FR Wat σ τ ∧ ((σ.1 117 2) ≤ (τ.1 117 2)) ∧ ((nb σ) = 1 → (τ.1 117 2) = (σ.1 117 2))) (fun a τ => Int.toNat (1700 - (τ.1 117 2))) () σ ?_ ?_
  · skip
    exact ⟨hg, FR.rf, (by omega), (fun _ => rfl)⟩
  · rintro ⟨⟩ τ2 ⟨g3, f4, p5, p6⟩ ih7
    have b8 := GI.b g3 117 2 kd117 (lo := 0) (hi := 1601) rfl
    show WP 216 0 [(0, .ref 117)] [] _ _ _ _
    refine wp_al1 jF_216_0 rfl rfl (pc2 := 1) ?_
    refine wp_gi jF_216_1 kd117 (by decide) rfl rfl rfl (pc2 := 4) ?_
    refine wp_al1 jF_216_4 rfl rfl (pc2 := 5) ?_
    have b9 := GI.b hg 117 3 kd117 (lo := 0) (hi := 1600) rfl
    refine wp_gi jF_216_5 kd117 (by decide) rfl (FR.at f4 117 3 rfl) rfl (pc2 := 8) ?_
    refine wp_i_ge jF_216_8 (m_rgb b8 rfl) (m_rgb b9 rfl) rfl (pc2 := 11) ?_ ?_
    · intro h10
      refine wp_al1 jF_216_52 rfl rfl (pc2 := 53) ?_
      refine wp_gi jF_216_53 kd117 (by decide) rfl rfl rfl (pc2 := 56) ?_
      refine wp_al1 jF_216_56 rfl rfl (pc2 := 57) ?_
      refine wp_gi jF_216_57 kd117 (by decide) rfl (FR.at f4 117 3 rfl) rfl (pc2 := 60) ?_
      refine wp_i_ge jF_216_60 (m_rgb b8 rfl) (m_rgb b9 rfl) rfl (pc2 := 63) ?_ ?_
      · intro h11
        refine wp_ic jF_216_75 rfl (pc2 := 76) ?_
        refine wp_ri jF_216_76 rfl ?_
        exact ⟨(-1), rfl, ⟨by omega, by omega⟩, g3, f4, (by omega), (by omega), (by have c := ch_ge f4 (by omega); omega), (nb_1 (by have c := ch_ge f4 (by omega); omega)), (fun hc => ⟨p6 hc, ch_at f4 (p6 hc), (nb_cgc (ch_at f4 (p6 hc))).trans hc⟩), (by omega)⟩
      · intro h11
        refine wp_al1 jF_216_63 rfl rfl (pc2 := 64) ?_
        refine wp_gr (b := 118) jF_216_64 kd117 (by decide) (c := 218) rfl rfl rfl (pc2 := 67) ?_
        refine wp_al1 jF_216_67 rfl rfl (pc2 := 68) ?_
        refine wp_gi jF_216_68 kd117 (by decide) rfl rfl rfl (pc2 := 71) ?_
        have b12 := GI.b hg 118 (τ2.1 117 2).toNat kd118 (lo := 0) (hi := 255) rfl
        refine wp_iald (n := 1600) jF_216_71 kd118 (by decide) rfl rfl (by omega) (by omega) (FR.at f4 118 (τ2.1 117 2).toNat rfl) rfl (pc2 := 72) ?_
        refine wp_go jF_216_72 ?_
        refine wp_ri jF_216_76 rfl ?_
        exact ⟨(σ.1 118 (τ2.1 117 2).toNat), rfl, ⟨by omega, by omega⟩, g3, f4, (by omega), (by omega), (by have c := ch_lt f4 (by omega); omega), (nb_1 (by have c := ch_lt f4 (by omega); omega)), (fun hc => ⟨p6 hc, ch_at f4 (p6 hc), (nb_cgc (ch_at f4 (p6 hc))).trans hc⟩), (by omega)⟩
    · intro h10
      refine wp_al1 jF_216_11 rfl rfl (pc2 := 12) ?_
      refine wp_gr (b := 118) jF_216_12 kd117 (by decide) (c := 218) rfl rfl rfl (pc2 := 15) ?_
      refine wp_al1 jF_216_15 rfl rfl (pc2 := 16) ?_
      refine wp_gi jF_216_16 kd117 (by decide) rfl rfl rfl (pc2 := 19) ?_
      have b13 := GI.b hg 118 (τ2.1 117 2).toNat kd118 (lo := 0) (hi := 255) rfl
      refine wp_iald (n := 1600) jF_216_19 kd118 (by decide) rfl rfl (by omega) (by omega) (FR.at f4 118 (τ2.1 117 2).toNat rfl) rfl (pc2 := 20) ?_
      refine wp_bi jF_216_20 (by decide) rfl (pc2 := 22) ?_
      refine wp_i_eq jF_216_22 (m_rgb b13 rfl) (m_rgl rfl) rfl (pc2 := 25) ?_ ?_
      · intro h14
        refine wp_al1 jF_216_39 rfl rfl (pc2 := 40) ?_
        refine wp_dup jF_216_40 rfl rfl (pc2 := 41) ?_
        refine wp_gi jF_216_41 kd117 (by decide) rfl rfl rfl (pc2 := 44) ?_
        refine wp_ic jF_216_44 rfl (pc2 := 45) ?_
        refine wp_add jF_216_45 rfl (pc2 := 46) ?_
        refine wp_pi jF_216_46 kd117 (by decide) rfl rfl rfl (pc2 := 49) g3 (lo := 0) (hi := 1601) rfl (by omega) (by omega) ?_
        intro τ15 g16 f17 e18
        refine wp_go jF_216_49 ?_
        have q19 : (τ15.1 117 2) = ((τ2.1 117 2) + 1) := e18
        exact ih7 () τ15 ⟨g16, (FR.w f4 f17 rfl), (by omega), (fun hc => by have e := nb_cgc (ch_at f4 (p6 hc)); have c := ch_lt f4 (by omega); have d := nb_ch (e.trans hc); exfalso; omega)⟩ (by show Int.toNat (1700 - (τ15.1 117 2)) < Int.toNat (1700 - (τ2.1 117 2)); omega)
      · intro h14
        refine wp_al1 jF_216_25 rfl rfl (pc2 := 26) ?_
        refine wp_gr (b := 118) jF_216_26 kd117 (by decide) (c := 218) rfl rfl rfl (pc2 := 29) ?_
        refine wp_al1 jF_216_29 rfl rfl (pc2 := 30) ?_
        refine wp_gi jF_216_30 kd117 (by decide) rfl rfl rfl (pc2 := 33) ?_
        refine wp_iald (n := 1600) jF_216_33 kd118 (by decide) rfl rfl (by omega) (by omega) (FR.at f4 118 (τ2.1 117 2).toNat rfl) rfl (pc2 := 34) ?_
        refine wp_bi jF_216_34 (by decide) rfl (pc2 := 36) ?_
        refine wp_i_ne jF_216_36 (m_rgb b13 rfl) (m_rgl rfl) rfl (pc2 := 39) ?_ ?_
        · intro h20
          refine wp_al1 jF_216_52 rfl rfl (pc2 := 53) ?_
          refine wp_gi jF_216_53 kd117 (by decide) rfl rfl rfl (pc2 := 56) ?_
          refine wp_al1 jF_216_56 rfl rfl (pc2 := 57) ?_
          refine wp_gi jF_216_57 kd117 (by decide) rfl (FR.at f4 117 3 rfl) rfl (pc2 := 60) ?_
          refine wp_i_ge jF_216_60 (m_rgb b8 rfl) (m_rgb b9 rfl) rfl (pc2 := 63) ?_ ?_
          · intro h21
            refine wp_ic jF_216_75 rfl (pc2 := 76) ?_
            refine wp_ri jF_216_76 rfl ?_
            exact ⟨(-1), rfl, ⟨by omega, by omega⟩, g3, f4, (by omega), (by omega), (by have c := ch_ge f4 (by omega); omega), (nb_1 (by have c := ch_ge f4 (by omega); omega)), (fun hc => ⟨p6 hc, ch_at f4 (p6 hc), (nb_cgc (ch_at f4 (p6 hc))).trans hc⟩), (by omega)⟩
          · intro h21
            refine wp_al1 jF_216_63 rfl rfl (pc2 := 64) ?_
            refine wp_gr (b := 118) jF_216_64 kd117 (by decide) (c := 218) rfl rfl rfl (pc2 := 67) ?_
            refine wp_al1 jF_216_67 rfl rfl (pc2 := 68) ?_
            refine wp_gi jF_216_68 kd117 (by decide) rfl rfl rfl (pc2 := 71) ?_
            refine wp_iald (n := 1600) jF_216_71 kd118 (by decide) rfl rfl (by omega) (by omega) (FR.at f4 118 (τ2.1 117 2).toNat rfl) rfl (pc2 := 72) ?_
            refine wp_go jF_216_72 ?_
            refine wp_ri jF_216_76 rfl ?_
            exact ⟨(σ.1 118 (τ2.1 117 2).toNat), rfl, ⟨by omega, by omega⟩, g3, f4, (by omega), (by omega), (by have c := ch_lt f4 (by omega); omega), (nb_1 (by have c := ch_lt f4 (by omega); omega)), (fun hc => ⟨p6 hc, ch_at f4 (p6 hc), (nb_cgc (ch_at f4 (p6 hc))).trans hc⟩), (by omega)⟩
        · intro h20
          refine wp_al1 jF_216_39 rfl rfl (pc2 := 40) ?_
          refine wp_dup jF_216_40 rfl rfl (pc2 := 41) ?_
          refine wp_gi jF_216_41 kd117 (by decide) rfl rfl rfl (pc2 := 44) ?_
          refine wp_ic jF_216_44 rfl (pc2 := 45) ?_
          refine wp_add jF_216_45 rfl (pc2 := 46) ?_
          refine wp_pi jF_216_46 kd117 (by decide) rfl rfl rfl (pc2 := 49) g3 (lo := 0) (hi := 1601) rfl (by omega) (by omega) ?_
          intro τ22 g23 f24 e25
          refine wp_go jF_216_49 ?_
          have q26 : (τ22.1 117 2) = ((τ2.1 117 2) + 1) := e25
          exact ih7 () τ22 ⟨g23, (FR.w f4 f24 rfl), (by omega), (fun hc => by have e := nb_cgc (ch_at f4 (p6 hc)); have c := ch_lt f4 (by omega); have d := nb_ch (e.trans hc); exfalso; omega)⟩ (by show Int.toNat (1700 - (τ22.1 117 2)) < Int.toNat (1700 - (τ2.1 117 2)); omega)
set_option maxHeartbeats 4000000 in
set_option maxRecDepth 20000 in
/-- M.fail -/
theorem m_218 (σ : jM) (hg : GI σ) (kind : Int) (hl_kind : 1 ≤ kind) (hu_kind : kind ≤ 5) (pl : Int) (hl_pl : (-2147483648) ≤ pl) (hu_pl : pl ≤ 2147483647)  (fr lo : Nat) (hfr : 0 ≤ fr) (hlo : 0 ≤ lo) : WP 218 0 (lv_args 0 [.ref 117, iV kind, iV pl]) [] fr lo σ (fun v τ => v = none ∧ GI τ ∧ FR Wbad σ τ ∧ ((σ.1 117 5) ≠ 0 → (τ.1 117 5) = (σ.1 117 5)) ∧ ((σ.1 117 5) = 0 → (τ.1 117 5) = kind)) := by
  show WP 218 0 [(0, .ref 117), (1, iV kind), (2, iV pl)] [] _ _ _ _
  refine wp_al1 jF_218_0 rfl rfl (pc2 := 1) ?_
  have b1 := GI.b hg 117 5 kd117 (lo := (-2147483648)) (hi := 2147483647) rfl
  refine wp_gi jF_218_1 kd117 (by decide) rfl rfl rfl (pc2 := 4) ?_
  refine wp_z_eq jF_218_4 (m_rgb b1 rfl) rfl (pc2 := 7) ?_ ?_
  · intro h2
    refine wp_al1 jF_218_8 rfl rfl (pc2 := 9) ?_
    refine wp_il1 jF_218_9 rfl rfl (pc2 := 10) ?_
    refine wp_pi jF_218_10 kd117 (by decide) rfl rfl rfl (pc2 := 13) hg (lo := (-2147483648)) (hi := 2147483647) rfl (by omega) (by omega) ?_
    intro τ3 g4 f5 e6
    refine wp_al1 jF_218_13 rfl rfl (pc2 := 14) ?_
    refine wp_il1 jF_218_14 rfl rfl (pc2 := 15) ?_
    refine wp_pi jF_218_15 kd117 (by decide) rfl rfl rfl (pc2 := 18) g4 (lo := (-2147483648)) (hi := 2147483647) rfl (by omega) (by omega) ?_
    intro τ7 g8 f9 e10
    refine wp_rv jF_218_18 ?_
    have q11 : (τ7.1 117 5) = kind := ((FRw.nj f9 (by decide)).trans e6)
    exact ⟨rfl, g8, (FR.w (FR.w FR.rf f5 rfl) f9 rfl), (by omega), (by omega)⟩
  · intro h2
    refine wp_rv jF_218_7 ?_
    exact ⟨rfl, hg, FR.rf, (by omega), (by omega)⟩
set_option maxHeartbeats 4000000 in
set_option maxRecDepth 20000 in
/-- M.isHere -/
theorem m_220 (σ : jM) (hg : GI σ) (w nw : Nat) (h0_w : m_kd jKD w ≠ 0) (hq_w : m_qa (jSK (m_kd jKD w)) 2 nw = true) (hn_w : 1 ≤ nw ∧ nw ≤ 6)  (fr lo : Nat) (hfr : 1 ≤ fr) (hlo : 20 ≤ lo) : WP 220 0 (lv_args 0 [.ref 117, .ref w]) [] fr lo σ (fun v τ => ∃ z : Int, v = some (iV z) ∧ (0 ≤ z ∧ z ≤ 1) ∧ GI τ ∧ FR Wat σ τ ∧ ((σ.1 117 2) ≤ (τ.1 117 2)) ∧ (z = 1 → ((τ.1 117 2) + (nw : Int) ≤ (σ.1 117 3) ∧ (σ.1 117 5) = 0 ∧ 97 ≤ (ch τ) ∧ (ch τ) ≤ 122)) ∧ ((nb σ) = 1 → ((τ.1 117 2) = (σ.1 117 2) ∧ (ch τ) = (ch σ) ∧ (nb τ) = 1))) := by
  show WP 220 0 [(0, .ref 117), (1, .ref w)] [] _ _ _ _
  refine wp_al1 jF_220_0 rfl rfl (pc2 := 1) ?_
  have b1 := GI.b hg 117 5 kd117 (lo := (-2147483648)) (hi := 2147483647) rfl
  refine wp_gi jF_220_1 kd117 (by decide) rfl rfl rfl (pc2 := 4) ?_
  refine wp_z_ne jF_220_4 (m_rgb b1 rfl) rfl (pc2 := 7) ?_ ?_
  · intro h2
    refine wp_ic jF_220_28 rfl (pc2 := 29) ?_
    refine wp_ri jF_220_29 rfl ?_
    have b3 := GI.b hg 117 2 kd117 (lo := 0) (hi := 1601) rfl
    have b4 := GI.b hg 117 3 kd117 (lo := 0) (hi := 1600) rfl
    exact ⟨0, rfl, ⟨by omega, by omega⟩, hg, FR.rf, (by omega), (by omega), (by omega)⟩
  · intro h2
    refine wp_al1 jF_220_7 rfl rfl (pc2 := 8) ?_
    refine wp_cV (as := []) (rest := []) (a := 117) (mx := 1) (ci := 12) jF_220_8 kd117 (by decide) rfl rfl rfl rfl rfl (by omega) (by omega) rfl (pc2 := 11) ?_
    have b5 := GI.b hg 117 2 kd117 (lo := 0) (hi := 1601) rfl
    have b6 := GI.b hg 117 3 kd117 (lo := 0) (hi := 1600) rfl
    refine wp_use (m_216 σ hg   _ _ (by omega) (by omega)) ?_
    rintro _ τ13 ⟨z16, rfl, h17, g14, f15, p7, p8, p9, p10, p11, p12⟩
    have b18 := GI.b hg 118 (τ13.1 117 2).toNat kd118 (lo := 0) (hi := 255) rfl
    show WP 220 11 [(0, .ref 117), (1, .ref w)] [iV z16] _ _ _ _
    refine wp_cS (as := [iV z16]) (rest := []) (mx := 1) jF_220_11 rfl rfl rfl rfl (by omega) (by omega) rfl (pc2 := 14) ?_
    show WP 221 0 [(0, iV z16)] [] _ _ _ _
    refine wp_il1 jF_221_0 rfl rfl (pc2 := 1) ?_
    refine wp_bi jF_221_1 (by decide) rfl (pc2 := 3) ?_
    refine wp_i_lt jF_221_3 (m_rgb h17 rfl) (m_rgl rfl) rfl (pc2 := 6) ?_ ?_
    · intro h19
      refine wp_ic jF_221_16 rfl (pc2 := 17) ?_
      refine wp_ri jF_221_17 rfl ?_
      show WP 220 14 [(0, .ref 117), (1, .ref w)] [iV 0] _ _ _ _
      refine wp_z_eq jF_220_14 (m_rgl rfl) rfl (pc2 := 17) ?_ ?_
      · intro h20
        refine wp_ic jF_220_28 rfl (pc2 := 29) ?_
        refine wp_ri jF_220_29 rfl ?_
        have b21 := GI.b g14 117 2 kd117 (lo := 0) (hi := 1601) rfl
        exact ⟨0, rfl, ⟨by omega, by omega⟩, g14, f15, (by omega), (by omega), (by omega)⟩
      · intro h20; exfalso; omega
    · intro h19
      replace p7 := p7 (by omega)
      replace p12 := p12 (by omega)
      refine wp_il1 jF_221_6 rfl rfl (pc2 := 7) ?_
      refine wp_bi jF_221_7 (by decide) rfl (pc2 := 9) ?_
      refine wp_i_gt jF_221_9 ⟨by omega, by omega⟩ (m_rgl rfl) rfl (pc2 := 12) ?_ ?_
      · intro h22
        refine wp_ic jF_221_16 rfl (pc2 := 17) ?_
        refine wp_ri jF_221_17 rfl ?_
        show WP 220 14 [(0, .ref 117), (1, .ref w)] [iV 0] _ _ _ _
        refine wp_z_eq jF_220_14 (m_rgl rfl) rfl (pc2 := 17) ?_ ?_
        · intro h23
          refine wp_ic jF_220_28 rfl (pc2 := 29) ?_
          refine wp_ri jF_220_29 rfl ?_
          have b24 := GI.b g14 117 2 kd117 (lo := 0) (hi := 1601) rfl
          exact ⟨0, rfl, ⟨by omega, by omega⟩, g14, f15, (by omega), (by omega), (by omega)⟩
        · intro h23; exfalso; omega
      · intro h22
        refine wp_ic jF_221_12 rfl (pc2 := 13) ?_
        refine wp_go jF_221_13 ?_
        refine wp_ri jF_221_17 rfl ?_
        show WP 220 14 [(0, .ref 117), (1, .ref w)] [iV 1] _ _ _ _
        refine wp_z_eq jF_220_14 (m_rgl rfl) rfl (pc2 := 17) ?_ ?_
        · intro h25; exfalso; omega
        · intro h25
          refine wp_al1 jF_220_17 rfl rfl (pc2 := 18) ?_
          have b26 := GI.b g14 117 2 kd117 (lo := 0) (hi := 1601) rfl
          refine wp_gi jF_220_18 kd117 (by decide) rfl rfl rfl (pc2 := 21) ?_
          refine wp_al1 jF_220_21 rfl rfl (pc2 := 22) ?_
          have b27 := GI.b hg 117 4 kd117 (lo := (-2147483648)) (hi := 2147483647) rfl
          refine wp_gi jF_220_22 kd117 (by decide) rfl (FR.at f15 117 4 rfl) rfl (pc2 := 25) ?_
          refine wp_i_ne jF_220_25 (m_rgb b26 rfl) (m_rgb b27 rfl) rfl (pc2 := 28) ?_ ?_
          · intro h28
            refine wp_al1 jF_220_30 rfl rfl (pc2 := 31) ?_
            refine wp_gi jF_220_31 kd117 (by decide) rfl rfl rfl (pc2 := 34) ?_
            refine wp_is1 (lv2 := [(0, .ref 117), (1, .ref w), (2, iV (τ13.1 117 2))]) jF_220_34 rfl rfl rfl (pc2 := 35) ?_
            have q29 : (τ13.1 117 3) = (σ.1 117 3) := (FR.at f15 117 3 rfl)
            refine wp_loop (α := Int) (fun a => [(0, .ref 117), (1, .ref w), (2, iV (a))]) (fun a τ => (0 ≤ a ∧ a ≤ 1601) ∧ τ13 = τ ∧ ((τ13.1 117 2) ≤ (a)) ∧ ((a) ≤ (τ13.1 117 3))) (fun a τ => Int.toNat ((τ13.1 117 3) - (a))) ((τ13.1 117 2)) τ13 ?_ ?_
            · skip
              exact ⟨⟨by omega, by omega⟩, rfl, (by omega), (by omega)⟩
            · rintro x30 _ ⟨h31, rfl, p35, p36⟩ ih37
              show WP 220 35 [(0, .ref 117), (1, .ref w), (2, iV x30)] [] _ _ _ _
              refine wp_il1 jF_220_35 rfl rfl (pc2 := 36) ?_
              refine wp_al1 jF_220_36 rfl rfl (pc2 := 37) ?_
              refine wp_gi jF_220_37 kd117 (by decide) rfl (FR.at f15 117 3 rfl) rfl (pc2 := 40) ?_
              refine wp_i_ge jF_220_40 (m_rgb h31 rfl) (m_rgb b6 rfl) rfl (pc2 := 43) ?_ ?_
              · intro h38
                refine wp_il1 jF_220_61 rfl rfl (pc2 := 62) ?_
                refine wp_al1 jF_220_62 rfl rfl (pc2 := 63) ?_
                refine wp_gi jF_220_63 kd117 (by decide) rfl rfl rfl (pc2 := 66) ?_
                refine wp_sub jF_220_66 rfl (pc2 := 67) ?_
                refine wp_al1 jF_220_67 rfl rfl (pc2 := 68) ?_
                refine wp_len (n := nw) (t := 2) jF_220_68 rfl h0_w hq_w rfl (pc2 := 69) ?_
                refine wp_i_eq jF_220_69 ⟨by omega, by omega⟩ ⟨by omega, by omega⟩ rfl (pc2 := 72) ?_ ?_
                · intro h39
                  refine wp_ic jF_220_74 rfl (pc2 := 75) ?_
                  refine wp_is1 (lv2 := [(0, .ref 117), (1, .ref w), (2, iV x30), (3, iV 0)]) jF_220_75 rfl rfl rfl (pc2 := 76) ?_
                  refine wp_loop (α := Int) (fun a => [(0, .ref 117), (1, .ref w), (2, iV x30), (3, iV (a))]) (fun a τ => (0 ≤ a ∧ a ≤ 6) ∧ τ13 = τ) (fun a τ => Int.toNat (6 - (a))) (0) τ13 ?_ ?_
                  · skip
                    exact ⟨⟨by omega, by omega⟩, rfl⟩
                  · rintro x40 _ ⟨h41, rfl⟩ ih45
                    show WP 220 76 [(0, .ref 117), (1, .ref w), (2, iV x30), (3, iV x40)] [] _ _ _ _
                    refine wp_il1 jF_220_76 rfl rfl (pc2 := 77) ?_
                    refine wp_al1 jF_220_77 rfl rfl (pc2 := 78) ?_
                    refine wp_len (n := nw) (t := 2) jF_220_78 rfl h0_w hq_w rfl (pc2 := 79) ?_
                    refine wp_i_ge jF_220_79 (m_rgb h41 rfl) ⟨by omega, by omega⟩ rfl (pc2 := 82) ?_ ?_
                    · intro h46
                      refine wp_ic jF_220_107 rfl (pc2 := 108) ?_
                      refine wp_ri jF_220_108 rfl ?_
                      exact ⟨1, rfl, ⟨by omega, by omega⟩, g14, f15, (by omega), (by omega), (by omega)⟩
                    · intro h46
                      refine wp_al1 jF_220_82 rfl rfl (pc2 := 83) ?_
                      refine wp_gr (b := 118) jF_220_83 kd117 (by decide) (c := 218) rfl rfl rfl (pc2 := 86) ?_
                      refine wp_al1 jF_220_86 rfl rfl (pc2 := 87) ?_
                      refine wp_gi jF_220_87 kd117 (by decide) rfl rfl rfl (pc2 := 90) ?_
                      refine wp_il1 jF_220_90 rfl rfl (pc2 := 91) ?_
                      refine wp_add jF_220_91 rfl (pc2 := 92) ?_
                      have b47 := GI.b hg 118 ((τ13.1 117 2) + x40).toNat kd118 (lo := 0) (hi := 255) rfl
                      refine wp_iald (n := 1600) jF_220_92 kd118 (by decide) rfl rfl (by omega) (by omega) (FR.at f15 118 ((τ13.1 117 2) + x40).toNat rfl) rfl (pc2 := 93) ?_
                      refine wp_al1 jF_220_93 rfl rfl (pc2 := 94) ?_
                      refine wp_il1 jF_220_94 rfl rfl (pc2 := 95) ?_
                      refine wp_caldC (n := nw) jF_220_95 h0_w hq_w (by omega) (by omega) (by omega) rfl (pc2 := 96) g14 ?_
                      intro z48 h49
                      refine wp_i_eq jF_220_96 (m_rgb b47 rfl) (m_rgb h49 rfl) rfl (pc2 := 99) ?_ ?_
                      · intro h50
                        refine wp_inc (lv2 := [(0, .ref 117), (1, .ref w), (2, iV x30), (3, iV (x40 + 1))]) jF_220_101 rfl rfl rfl rfl (pc2 := 104) ?_
                        refine wp_go jF_220_104 ?_
                        exact ih45 ((x40 + 1)) τ13 ⟨⟨by omega, by omega⟩, rfl⟩ (by show Int.toNat (6 - (x40 + 1)) < Int.toNat (6 - x40); omega)
                      · intro h50
                        refine wp_ic jF_220_99 rfl (pc2 := 100) ?_
                        refine wp_ri jF_220_100 rfl ?_
                        exact ⟨0, rfl, ⟨by omega, by omega⟩, g14, f15, (by omega), (by omega), (by omega)⟩
                · intro h39
                  refine wp_ic jF_220_72 rfl (pc2 := 73) ?_
                  refine wp_ri jF_220_73 rfl ?_
                  exact ⟨0, rfl, ⟨by omega, by omega⟩, g14, f15, (by omega), (by omega), (by omega)⟩
              · intro h38
                refine wp_al1 jF_220_43 rfl rfl (pc2 := 44) ?_
                refine wp_gr (b := 118) jF_220_44 kd117 (by decide) (c := 218) rfl rfl rfl (pc2 := 47) ?_
                refine wp_il1 jF_220_47 rfl rfl (pc2 := 48) ?_
                have b51 := GI.b hg 118 x30.toNat kd118 (lo := 0) (hi := 255) rfl
                refine wp_iald (n := 1600) jF_220_48 kd118 (by decide) rfl rfl (by omega) (by omega) (FR.at f15 118 x30.toNat rfl) rfl (pc2 := 49) ?_
                refine wp_cS (as := [iV (σ.1 118 x30.toNat)]) (rest := []) (mx := 1) jF_220_49 rfl rfl rfl rfl (by omega) (by omega) rfl (pc2 := 52) ?_
                show WP 221 0 [(0, iV (σ.1 118 x30.toNat))] [] _ _ _ _
                refine wp_il1 jF_221_0 rfl rfl (pc2 := 1) ?_
                refine wp_bi jF_221_1 (by decide) rfl (pc2 := 3) ?_
                refine wp_i_lt jF_221_3 (m_rgb b51 rfl) (m_rgl rfl) rfl (pc2 := 6) ?_ ?_
                · intro h52
                  refine wp_ic jF_221_16 rfl (pc2 := 17) ?_
                  refine wp_ri jF_221_17 rfl ?_
                  show WP 220 52 [(0, .ref 117), (1, .ref w), (2, iV x30)] [iV 0] _ _ _ _
                  refine wp_z_eq jF_220_52 (m_rgl rfl) rfl (pc2 := 55) ?_ ?_
                  · intro h53
                    refine wp_il1 jF_220_61 rfl rfl (pc2 := 62) ?_
                    refine wp_al1 jF_220_62 rfl rfl (pc2 := 63) ?_
                    refine wp_gi jF_220_63 kd117 (by decide) rfl rfl rfl (pc2 := 66) ?_
                    refine wp_sub jF_220_66 rfl (pc2 := 67) ?_
                    refine wp_al1 jF_220_67 rfl rfl (pc2 := 68) ?_
                    refine wp_len (n := nw) (t := 2) jF_220_68 rfl h0_w hq_w rfl (pc2 := 69) ?_
                    refine wp_i_eq jF_220_69 ⟨by omega, by omega⟩ ⟨by omega, by omega⟩ rfl (pc2 := 72) ?_ ?_
                    · intro h54
                      refine wp_ic jF_220_74 rfl (pc2 := 75) ?_
                      refine wp_is1 (lv2 := [(0, .ref 117), (1, .ref w), (2, iV x30), (3, iV 0)]) jF_220_75 rfl rfl rfl (pc2 := 76) ?_
                      refine wp_loop (α := Int) (fun a => [(0, .ref 117), (1, .ref w), (2, iV x30), (3, iV (a))]) (fun a τ => (0 ≤ a ∧ a ≤ 6) ∧ τ13 = τ) (fun a τ => Int.toNat (6 - (a))) (0) τ13 ?_ ?_
                      · skip
                        exact ⟨⟨by omega, by omega⟩, rfl⟩
                      · rintro x55 _ ⟨h56, rfl⟩ ih60
                        show WP 220 76 [(0, .ref 117), (1, .ref w), (2, iV x30), (3, iV x55)] [] _ _ _ _
                        refine wp_il1 jF_220_76 rfl rfl (pc2 := 77) ?_
                        refine wp_al1 jF_220_77 rfl rfl (pc2 := 78) ?_
                        refine wp_len (n := nw) (t := 2) jF_220_78 rfl h0_w hq_w rfl (pc2 := 79) ?_
                        refine wp_i_ge jF_220_79 (m_rgb h56 rfl) ⟨by omega, by omega⟩ rfl (pc2 := 82) ?_ ?_
                        · intro h61
                          refine wp_ic jF_220_107 rfl (pc2 := 108) ?_
                          refine wp_ri jF_220_108 rfl ?_
                          exact ⟨1, rfl, ⟨by omega, by omega⟩, g14, f15, (by omega), (by omega), (by omega)⟩
                        · intro h61
                          refine wp_al1 jF_220_82 rfl rfl (pc2 := 83) ?_
                          refine wp_gr (b := 118) jF_220_83 kd117 (by decide) (c := 218) rfl rfl rfl (pc2 := 86) ?_
                          refine wp_al1 jF_220_86 rfl rfl (pc2 := 87) ?_
                          refine wp_gi jF_220_87 kd117 (by decide) rfl rfl rfl (pc2 := 90) ?_
                          refine wp_il1 jF_220_90 rfl rfl (pc2 := 91) ?_
                          refine wp_add jF_220_91 rfl (pc2 := 92) ?_
                          have b62 := GI.b hg 118 ((τ13.1 117 2) + x55).toNat kd118 (lo := 0) (hi := 255) rfl
                          refine wp_iald (n := 1600) jF_220_92 kd118 (by decide) rfl rfl (by omega) (by omega) (FR.at f15 118 ((τ13.1 117 2) + x55).toNat rfl) rfl (pc2 := 93) ?_
                          refine wp_al1 jF_220_93 rfl rfl (pc2 := 94) ?_
                          refine wp_il1 jF_220_94 rfl rfl (pc2 := 95) ?_
                          refine wp_caldC (n := nw) jF_220_95 h0_w hq_w (by omega) (by omega) (by omega) rfl (pc2 := 96) g14 ?_
                          intro z63 h64
                          refine wp_i_eq jF_220_96 (m_rgb b62 rfl) (m_rgb h64 rfl) rfl (pc2 := 99) ?_ ?_
                          · intro h65
                            refine wp_inc (lv2 := [(0, .ref 117), (1, .ref w), (2, iV x30), (3, iV (x55 + 1))]) jF_220_101 rfl rfl rfl rfl (pc2 := 104) ?_
                            refine wp_go jF_220_104 ?_
                            exact ih60 ((x55 + 1)) τ13 ⟨⟨by omega, by omega⟩, rfl⟩ (by show Int.toNat (6 - (x55 + 1)) < Int.toNat (6 - x55); omega)
                          · intro h65
                            refine wp_ic jF_220_99 rfl (pc2 := 100) ?_
                            refine wp_ri jF_220_100 rfl ?_
                            exact ⟨0, rfl, ⟨by omega, by omega⟩, g14, f15, (by omega), (by omega), (by omega)⟩
                    · intro h54
                      refine wp_ic jF_220_72 rfl (pc2 := 73) ?_
                      refine wp_ri jF_220_73 rfl ?_
                      exact ⟨0, rfl, ⟨by omega, by omega⟩, g14, f15, (by omega), (by omega), (by omega)⟩
                  · intro h53; exfalso; omega
                · intro h52
                  refine wp_il1 jF_221_6 rfl rfl (pc2 := 7) ?_
                  refine wp_bi jF_221_7 (by decide) rfl (pc2 := 9) ?_
                  refine wp_i_gt jF_221_9 ⟨by omega, by omega⟩ (m_rgl rfl) rfl (pc2 := 12) ?_ ?_
                  · intro h66
                    refine wp_ic jF_221_16 rfl (pc2 := 17) ?_
                    refine wp_ri jF_221_17 rfl ?_
                    show WP 220 52 [(0, .ref 117), (1, .ref w), (2, iV x30)] [iV 0] _ _ _ _
                    refine wp_z_eq jF_220_52 (m_rgl rfl) rfl (pc2 := 55) ?_ ?_
                    · intro h67
                      refine wp_il1 jF_220_61 rfl rfl (pc2 := 62) ?_
                      refine wp_al1 jF_220_62 rfl rfl (pc2 := 63) ?_
                      refine wp_gi jF_220_63 kd117 (by decide) rfl rfl rfl (pc2 := 66) ?_
                      refine wp_sub jF_220_66 rfl (pc2 := 67) ?_
                      refine wp_al1 jF_220_67 rfl rfl (pc2 := 68) ?_
                      refine wp_len (n := nw) (t := 2) jF_220_68 rfl h0_w hq_w rfl (pc2 := 69) ?_
                      refine wp_i_eq jF_220_69 ⟨by omega, by omega⟩ ⟨by omega, by omega⟩ rfl (pc2 := 72) ?_ ?_
                      · intro h68
                        refine wp_ic jF_220_74 rfl (pc2 := 75) ?_
                        refine wp_is1 (lv2 := [(0, .ref 117), (1, .ref w), (2, iV x30), (3, iV 0)]) jF_220_75 rfl rfl rfl (pc2 := 76) ?_
                        refine wp_loop (α := Int) (fun a => [(0, .ref 117), (1, .ref w), (2, iV x30), (3, iV (a))]) (fun a τ => (0 ≤ a ∧ a ≤ 6) ∧ τ13 = τ) (fun a τ => Int.toNat (6 - (a))) (0) τ13 ?_ ?_
                        · skip
                          exact ⟨⟨by omega, by omega⟩, rfl⟩
                        · rintro x69 _ ⟨h70, rfl⟩ ih74
                          show WP 220 76 [(0, .ref 117), (1, .ref w), (2, iV x30), (3, iV x69)] [] _ _ _ _
                          refine wp_il1 jF_220_76 rfl rfl (pc2 := 77) ?_
                          refine wp_al1 jF_220_77 rfl rfl (pc2 := 78) ?_
                          refine wp_len (n := nw) (t := 2) jF_220_78 rfl h0_w hq_w rfl (pc2 := 79) ?_
                          refine wp_i_ge jF_220_79 (m_rgb h70 rfl) ⟨by omega, by omega⟩ rfl (pc2 := 82) ?_ ?_
                          · intro h75
                            refine wp_ic jF_220_107 rfl (pc2 := 108) ?_
                            refine wp_ri jF_220_108 rfl ?_
                            exact ⟨1, rfl, ⟨by omega, by omega⟩, g14, f15, (by omega), (by omega), (by omega)⟩
                          · intro h75
                            refine wp_al1 jF_220_82 rfl rfl (pc2 := 83) ?_
                            refine wp_gr (b := 118) jF_220_83 kd117 (by decide) (c := 218) rfl rfl rfl (pc2 := 86) ?_
                            refine wp_al1 jF_220_86 rfl rfl (pc2 := 87) ?_
                            refine wp_gi jF_220_87 kd117 (by decide) rfl rfl rfl (pc2 := 90) ?_
                            refine wp_il1 jF_220_90 rfl rfl (pc2 := 91) ?_
                            refine wp_add jF_220_91 rfl (pc2 := 92) ?_
                            have b76 := GI.b hg 118 ((τ13.1 117 2) + x69).toNat kd118 (lo := 0) (hi := 255) rfl
                            refine wp_iald (n := 1600) jF_220_92 kd118 (by decide) rfl rfl (by omega) (by omega) (FR.at f15 118 ((τ13.1 117 2) + x69).toNat rfl) rfl (pc2 := 93) ?_
                            refine wp_al1 jF_220_93 rfl rfl (pc2 := 94) ?_
                            refine wp_il1 jF_220_94 rfl rfl (pc2 := 95) ?_
                            refine wp_caldC (n := nw) jF_220_95 h0_w hq_w (by omega) (by omega) (by omega) rfl (pc2 := 96) g14 ?_
                            intro z77 h78
                            refine wp_i_eq jF_220_96 (m_rgb b76 rfl) (m_rgb h78 rfl) rfl (pc2 := 99) ?_ ?_
                            · intro h79
                              refine wp_inc (lv2 := [(0, .ref 117), (1, .ref w), (2, iV x30), (3, iV (x69 + 1))]) jF_220_101 rfl rfl rfl rfl (pc2 := 104) ?_
                              refine wp_go jF_220_104 ?_
                              exact ih74 ((x69 + 1)) τ13 ⟨⟨by omega, by omega⟩, rfl⟩ (by show Int.toNat (6 - (x69 + 1)) < Int.toNat (6 - x69); omega)
                            · intro h79
                              refine wp_ic jF_220_99 rfl (pc2 := 100) ?_
                              refine wp_ri jF_220_100 rfl ?_
                              exact ⟨0, rfl, ⟨by omega, by omega⟩, g14, f15, (by omega), (by omega), (by omega)⟩
                      · intro h68
                        refine wp_ic jF_220_72 rfl (pc2 := 73) ?_
                        refine wp_ri jF_220_73 rfl ?_
                        exact ⟨0, rfl, ⟨by omega, by omega⟩, g14, f15, (by omega), (by omega), (by omega)⟩
                    · intro h67; exfalso; omega
                  · intro h66
                    refine wp_ic jF_221_12 rfl (pc2 := 13) ?_
                    refine wp_go jF_221_13 ?_
                    refine wp_ri jF_221_17 rfl ?_
                    show WP 220 52 [(0, .ref 117), (1, .ref w), (2, iV x30)] [iV 1] _ _ _ _
                    refine wp_z_eq jF_220_52 (m_rgl rfl) rfl (pc2 := 55) ?_ ?_
                    · intro h80; exfalso; omega
                    · intro h80
                      refine wp_inc (lv2 := [(0, .ref 117), (1, .ref w), (2, iV (x30 + 1))]) jF_220_55 rfl rfl rfl rfl (pc2 := 58) ?_
                      refine wp_go jF_220_58 ?_
                      exact ih37 ((x30 + 1)) τ13 ⟨⟨by omega, by omega⟩, rfl, (by omega), (by omega)⟩ (by show Int.toNat ((τ13.1 117 3) - (x30 + 1)) < Int.toNat ((τ13.1 117 3) - x30); omega)
          · intro h28
            refine wp_ic jF_220_28 rfl (pc2 := 29) ?_
            refine wp_ri jF_220_29 rfl ?_
            exact ⟨0, rfl, ⟨by omega, by omega⟩, g14, f15, (by omega), (by omega), (by omega)⟩
set_option maxHeartbeats 4000000 in
set_option maxRecDepth 20000 in
/-- M.takes -/
theorem m_219 (σ : jM) (hg : GI σ) (w nw : Nat) (h0_w : m_kd jKD w ≠ 0) (hq_w : m_qa (jSK (m_kd jKD w)) 2 nw = true) (hn_w : 1 ≤ nw ∧ nw ≤ 6)  (fr lo : Nat) (hfr : 2 ≤ fr) (hlo : 43 ≤ lo) : WP 219 0 (lv_args 0 [.ref 117, .ref w]) [] fr lo σ (fun v τ => ∃ z : Int, v = some (iV z) ∧ (0 ≤ z ∧ z ≤ 1) ∧ GI τ ∧ FR Wtak σ τ ∧ ((σ.1 117 2) ≤ (τ.1 117 2)) ∧ (z = 1 → ((σ.1 117 2) < (τ.1 117 2) ∧ (τ.1 117 2) ≤ (σ.1 117 3) ∧ (σ.1 117 5) = 0)) ∧ ((nb σ) = 1 → z = 0 → ((τ.1 117 2) = (σ.1 117 2) ∧ (ch τ) = (ch σ) ∧ (nb τ) = 1)) ∧ ((nb σ) = 1 → z = 1 → (97 ≤ (ch σ) ∧ (ch σ) ≤ 122))) := by
  show WP 219 0 [(0, .ref 117), (1, .ref w)] [] _ _ _ _
  refine wp_al1 jF_219_0 rfl rfl (pc2 := 1) ?_
  refine wp_al1 jF_219_1 rfl rfl (pc2 := 2) ?_
  refine wp_cV (as := [.ref w]) (rest := []) (a := 117) (mx := 4) (ci := 12) jF_219_2 kd117 (by decide) rfl rfl rfl rfl rfl (by omega) (by omega) rfl (pc2 := 5) ?_
  have b1 := GI.b hg 117 2 kd117 (lo := 0) (hi := 1601) rfl
  have b2 := GI.b hg 117 3 kd117 (lo := 0) (hi := 1600) rfl
  have b3 := GI.b hg 117 5 kd117 (lo := (-2147483648)) (hi := 2147483647) rfl
  refine wp_use (m_220 σ hg w nw h0_w hq_w hn_w  _ _ (by omega) (by omega)) ?_
  rintro _ τ7 ⟨z10, rfl, h11, g8, f9, p4, p5, p6⟩
  show WP 219 5 [(0, .ref 117), (1, .ref w)] [iV z10] _ _ _ _
  refine wp_z_ne jF_219_5 (m_rgb h11 rfl) rfl (pc2 := 8) ?_ ?_
  · intro h12
    replace p5 := p5 (by omega)
    refine wp_al1 jF_219_10 rfl rfl (pc2 := 11) ?_
    refine wp_dup jF_219_11 rfl rfl (pc2 := 12) ?_
    have b13 := GI.b g8 117 2 kd117 (lo := 0) (hi := 1601) rfl
    refine wp_gi jF_219_12 kd117 (by decide) rfl rfl rfl (pc2 := 15) ?_
    refine wp_al1 jF_219_15 rfl rfl (pc2 := 16) ?_
    refine wp_len (n := nw) (t := 2) jF_219_16 rfl h0_w hq_w rfl (pc2 := 17) ?_
    refine wp_add jF_219_17 rfl (pc2 := 18) ?_
    refine wp_pi jF_219_18 kd117 (by decide) rfl rfl rfl (pc2 := 21) g8 (lo := 0) (hi := 1601) rfl (by omega) (by omega) ?_
    intro τ14 g15 f16 e17
    refine wp_al1 jF_219_21 rfl rfl (pc2 := 22) ?_
    refine wp_al1 jF_219_22 rfl rfl (pc2 := 23) ?_
    refine wp_gi jF_219_23 kd117 (by decide) rfl e17 rfl (pc2 := 26) ?_
    refine wp_pi jF_219_26 kd117 (by decide) rfl rfl rfl (pc2 := 29) g15 (lo := (-2147483648)) (hi := 2147483647) rfl (by omega) (by omega) ?_
    intro τ18 g19 f20 e21
    refine wp_ic jF_219_29 rfl (pc2 := 30) ?_
    refine wp_ri jF_219_30 rfl ?_
    have q22 : (ch τ18) = (ch τ14) := (ch_wr f20 (by decide))
    have q23 : (nb τ18) = (nb τ14) := (nb_wr f20 (by decide))
    have q24 : (τ18.1 117 2) = ((τ7.1 117 2) + (nw : Int)) := ((FRw.nj f20 (by decide)).trans e17)
    exact ⟨1, rfl, ⟨by omega, by omega⟩, g19, (FR.w (FR.w (FR.up FR.rf f9 sb_Wat_Wtak) f16 rfl) f20 rfl), (by omega), (by omega), (by omega), (by omega)⟩
  · intro h12
    clear p5
    refine wp_ic jF_219_8 rfl (pc2 := 9) ?_
    refine wp_ri jF_219_9 rfl ?_
    have b25 := GI.b g8 117 2 kd117 (lo := 0) (hi := 1601) rfl
    exact ⟨0, rfl, ⟨by omega, by omega⟩, g8, (FR.up FR.rf f9 sb_Wat_Wtak), (by omega), (by omega), (by omega), (by omega)⟩
set_option maxHeartbeats 4000000 in
set_option maxRecDepth 20000 in
/-- M.asks -/
theorem m_234 (σ : jM) (hg : GI σ) (w nw : Nat) (h0_w : m_kd jKD w ≠ 0) (hq_w : m_qa (jSK (m_kd jKD w)) 2 nw = true) (hn_w : 1 ≤ nw ∧ nw ≤ 6)  (fr lo : Nat) (hfr : 3 ≤ fr) (hlo : 64 ≤ lo) : WP 234 0 (lv_args 0 [.ref 117, .ref w]) [] fr lo σ (fun v τ => v = none ∧ GI τ ∧ FR Wask σ τ ∧ ((σ.1 117 2) ≤ (τ.1 117 2)) ∧ ((σ.1 117 5) ≠ 0 → (τ.1 117 5) = (σ.1 117 5)) ∧ ((τ.1 117 5) = 0 → ((σ.1 117 5) = 0 ∧ (σ.1 117 2) < (τ.1 117 2) ∧ (τ.1 117 2) ≤ (σ.1 117 3)))) := by
  show WP 234 0 [(0, .ref 117), (1, .ref w)] [] _ _ _ _
  refine wp_al1 jF_234_0 rfl rfl (pc2 := 1) ?_
  have b1 := GI.b hg 117 5 kd117 (lo := (-2147483648)) (hi := 2147483647) rfl
  refine wp_gi jF_234_1 kd117 (by decide) rfl rfl rfl (pc2 := 4) ?_
  refine wp_z_ne jF_234_4 (m_rgb b1 rfl) rfl (pc2 := 7) ?_ ?_
  · intro h2
    refine wp_rv jF_234_24 ?_
    have b3 := GI.b hg 117 2 kd117 (lo := 0) (hi := 1601) rfl
    have b4 := GI.b hg 117 3 kd117 (lo := 0) (hi := 1600) rfl
    exact ⟨rfl, hg, FR.rf, (by omega), (by omega), (by omega)⟩
  · intro h2
    refine wp_al1 jF_234_7 rfl rfl (pc2 := 8) ?_
    refine wp_al1 jF_234_8 rfl rfl (pc2 := 9) ?_
    refine wp_cV (as := [.ref w]) (rest := []) (a := 117) (mx := 2) (ci := 12) jF_234_9 kd117 (by decide) rfl rfl rfl rfl rfl (by omega) (by omega) rfl (pc2 := 12) ?_
    have b5 := GI.b hg 117 2 kd117 (lo := 0) (hi := 1601) rfl
    have b6 := GI.b hg 117 3 kd117 (lo := 0) (hi := 1600) rfl
    refine wp_use (m_219 σ hg w nw h0_w hq_w hn_w  _ _ (by omega) (by omega)) ?_
    rintro _ τ11 ⟨z14, rfl, h15, g12, f13, p7, p8, p9, p10⟩
    show WP 234 12 [(0, .ref 117), (1, .ref w)] [iV z14] _ _ _ _
    refine wp_z_ne jF_234_12 (m_rgb h15 rfl) rfl (pc2 := 15) ?_ ?_
    · intro h16
      replace p8 := p8 (by omega)
      refine wp_rv jF_234_24 ?_
      have b17 := GI.b g12 117 2 kd117 (lo := 0) (hi := 1601) rfl
      have q18 : (τ11.1 117 5) = (σ.1 117 5) := (FR.at f13 117 5 rfl)
      exact ⟨rfl, g12, (FR.up FR.rf f13 sb_Wtak_Wask), (by omega), (by omega), (by omega)⟩
    · intro h16
      clear p8
      refine wp_al1 jF_234_15 rfl rfl (pc2 := 16) ?_
      refine wp_ic jF_234_16 rfl (pc2 := 17) ?_
      refine wp_al1 jF_234_17 rfl rfl (pc2 := 18) ?_
      have b19 := GI.b g12 117 2 kd117 (lo := 0) (hi := 1601) rfl
      refine wp_gi jF_234_18 kd117 (by decide) rfl rfl rfl (pc2 := 21) ?_
      refine wp_cV (as := [iV 1, iV (τ11.1 117 2)]) (rest := []) (a := 117) (mx := 3) (ci := 12) jF_234_21 kd117 (by decide) rfl rfl rfl rfl rfl (by omega) (by omega) rfl (pc2 := 24) ?_
      have q20 : (τ11.1 117 5) = (σ.1 117 5) := (FR.at f13 117 5 rfl)
      refine wp_use (m_218 τ11 g12 1 (by omega) (by omega) (τ11.1 117 2) (by omega) (by omega)  _ _ (by omega) (by omega)) ?_
      rintro _ τ23 ⟨rfl, g24, f25, p21, p22⟩
      clear p21
      replace p22 := p22 (by omega)
      show WP 234 24 [(0, .ref 117), (1, .ref w)] [] _ _ _ _
      refine wp_rv jF_234_24 ?_
      have q26 : (τ23.1 117 2) = (τ11.1 117 2) := (FR.at f25 117 2 rfl)
      have b27 := GI.b g24 117 5 kd117 (lo := (-2147483648)) (hi := 2147483647) rfl
      exact ⟨rfl, g24, (FR.up (FR.up FR.rf f13 sb_Wtak_Wask) f25 sb_Wbad_Wask), (by omega), (by omega), (by omega)⟩
set_option maxHeartbeats 4000000 in
set_option maxRecDepth 20000 in
/-- M.takesSign -/
theorem m_239 (σ : jM) (hg : GI σ) (c : Int) (hl_c : 0 ≤ c) (hu_c : c ≤ 255)  (fr lo : Nat) (hfr : 1 ≤ fr) (hlo : 20 ≤ lo) : WP 239 0 (lv_args 0 [.ref 117, iV c]) [] fr lo σ (fun v τ => ∃ z : Int, v = some (iV z) ∧ (0 ≤ z ∧ z ≤ 1) ∧ GI τ ∧ FR Wat σ τ ∧ ((σ.1 117 2) ≤ (τ.1 117 2)) ∧ ((nb σ) = 1 → z = 0 → ((τ.1 117 2) = (σ.1 117 2) ∧ (ch τ) = (ch σ) ∧ (nb τ) = 1)) ∧ ((nb σ) = 1 → z = 1 → (ch σ) = c) ∧ (z = 1 → ((σ.1 117 2) < (τ.1 117 2) ∧ (τ.1 117 2) ≤ (σ.1 117 3) ∧ (σ.1 117 5) = 0))) := by
  show WP 239 0 [(0, .ref 117), (1, iV c)] [] _ _ _ _
  refine wp_al1 jF_239_0 rfl rfl (pc2 := 1) ?_
  have b1 := GI.b hg 117 5 kd117 (lo := (-2147483648)) (hi := 2147483647) rfl
  refine wp_gi jF_239_1 kd117 (by decide) rfl rfl rfl (pc2 := 4) ?_
  refine wp_z_ne jF_239_4 (m_rgb b1 rfl) rfl (pc2 := 7) ?_ ?_
  · intro h2
    refine wp_ic jF_239_15 rfl (pc2 := 16) ?_
    refine wp_ri jF_239_16 rfl ?_
    have b3 := GI.b hg 117 2 kd117 (lo := 0) (hi := 1601) rfl
    have b4 := GI.b hg 117 3 kd117 (lo := 0) (hi := 1600) rfl
    exact ⟨0, rfl, ⟨by omega, by omega⟩, hg, FR.rf, (by omega), (by omega), (by omega), (by omega)⟩
  · intro h2
    refine wp_al1 jF_239_7 rfl rfl (pc2 := 8) ?_
    refine wp_cV (as := []) (rest := []) (a := 117) (mx := 1) (ci := 12) jF_239_8 kd117 (by decide) rfl rfl rfl rfl rfl (by omega) (by omega) rfl (pc2 := 11) ?_
    have b5 := GI.b hg 117 2 kd117 (lo := 0) (hi := 1601) rfl
    have b6 := GI.b hg 117 3 kd117 (lo := 0) (hi := 1600) rfl
    refine wp_use (m_216 σ hg   _ _ (by omega) (by omega)) ?_
    rintro _ τ13 ⟨z16, rfl, h17, g14, f15, p7, p8, p9, p10, p11, p12⟩
    have b18 := GI.b hg 118 (τ13.1 117 2).toNat kd118 (lo := 0) (hi := 255) rfl
    show WP 239 11 [(0, .ref 117), (1, iV c)] [iV z16] _ _ _ _
    refine wp_il1 jF_239_11 rfl rfl (pc2 := 12) ?_
    refine wp_i_eq jF_239_12 (m_rgb h17 rfl) ⟨by omega, by omega⟩ rfl (pc2 := 15) ?_ ?_
    · intro h19
      refine wp_al1 jF_239_17 rfl rfl (pc2 := 18) ?_
      refine wp_dup jF_239_18 rfl rfl (pc2 := 19) ?_
      have b20 := GI.b g14 117 2 kd117 (lo := 0) (hi := 1601) rfl
      refine wp_gi jF_239_19 kd117 (by decide) rfl rfl rfl (pc2 := 22) ?_
      refine wp_ic jF_239_22 rfl (pc2 := 23) ?_
      refine wp_add jF_239_23 rfl (pc2 := 24) ?_
      refine wp_pi jF_239_24 kd117 (by decide) rfl rfl rfl (pc2 := 27) g14 (lo := 0) (hi := 1601) rfl (by omega) (by omega) ?_
      intro τ21 g22 f23 e24
      refine wp_ic jF_239_27 rfl (pc2 := 28) ?_
      refine wp_ri jF_239_28 rfl ?_
      have q25 : (τ21.1 117 2) = ((τ13.1 117 2) + 1) := e24
      exact ⟨1, rfl, ⟨by omega, by omega⟩, g22, (FR.w f15 f23 rfl), (by omega), (by omega), (by omega), (by omega)⟩
    · intro h19
      refine wp_ic jF_239_15 rfl (pc2 := 16) ?_
      refine wp_ri jF_239_16 rfl ?_
      have b26 := GI.b g14 117 2 kd117 (lo := 0) (hi := 1601) rfl
      exact ⟨0, rfl, ⟨by omega, by omega⟩, g14, f15, (by omega), (by omega), (by omega), (by omega)⟩
