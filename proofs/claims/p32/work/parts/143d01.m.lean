set_option maxHeartbeats 4000000 in
set_option maxRecDepth 20000 in
/-- M.strikes -/
theorem m_281 (σ : jM) (hg : GI σ) (place : Int) (hl_place : 0 ≤ place) (hu_place : place ≤ 60) (pre0 : place < (σ.1 117 49)) (fr lo : Nat) (hfr : 0 ≤ fr) (hlo : 0 ≤ lo) : WP 281 0 (lv_args 0 [.ref 117, iV place]) [] fr lo σ (fun v τ => v = none ∧ GI τ ∧ FR Wtr σ τ ∧ ((τ.1 117 49) = (σ.1 117 49) - 1)) := by
  show WP 281 0 [(0, .ref 117), (1, iV place)] [] _ _ _ _
  refine wp_al1 jF_281_0 rfl rfl (pc2 := 1) ?_
  refine wp_dup jF_281_1 rfl rfl (pc2 := 2) ?_
  have b1 := GI.b hg 117 49 kd117 (lo := 0) (hi := 61) rfl
  refine wp_gi jF_281_2 kd117 (by decide) rfl rfl rfl (pc2 := 5) ?_
  refine wp_ic jF_281_5 rfl (pc2 := 6) ?_
  refine wp_sub jF_281_6 rfl (pc2 := 7) ?_
  refine wp_pi jF_281_7 kd117 (by decide) rfl rfl rfl (pc2 := 10) hg (lo := 0) (hi := 61) rfl (by omega) (by omega) ?_
  intro τ2 g3 f4 e5
  refine wp_il1 jF_281_10 rfl rfl (pc2 := 11) ?_
  refine wp_is1 (lv2 := [(0, .ref 117), (1, iV place), (2, iV place)]) jF_281_11 rfl rfl rfl (pc2 := 12) ?_
  have q6 : (τ2.1 117 49) = ((σ.1 117 49) - 1) := e5
  refine wp_loop (α := Int) (fun a => [(0, .ref 117), (1, iV place), (2, iV (a))]) (fun a τ => (0 ≤ a ∧ a ≤ 61) ∧ GI τ ∧ FR Wtr τ2 τ ∧ ((τ.1 117 49) = (τ2.1 117 49))) (fun a τ => Int.toNat (61 - (a))) (place) τ2 ?_ ?_
  · skip
    exact ⟨⟨by omega, by omega⟩, g3, FR.rf, (by omega)⟩
  · rintro x7 τ9 ⟨h8, g10, f11, p12⟩ ih13
    have b14 := GI.b g10 117 49 kd117 (lo := 0) (hi := 61) rfl
    show WP 281 12 [(0, .ref 117), (1, iV place), (2, iV x7)] [] _ _ _ _
    show WP 281 12 [(0, .ref 117), (1, iV place), (2, iV x7)] [] _ _ _ _
    refine wp_il1 jF_281_12 rfl rfl (pc2 := 13) ?_
    refine wp_al1 jF_281_13 rfl rfl (pc2 := 14) ?_
    refine wp_gi jF_281_14 kd117 (by decide) rfl rfl rfl (pc2 := 17) ?_
    refine wp_i_ge jF_281_17 (m_rgb h8 rfl) (m_rgb b14 rfl) rfl (pc2 := 20) ?_ ?_
    · intro h15
      refine wp_rv jF_281_40 ?_
      exact ⟨rfl, g10, (FR.up (FR.w FR.rf f4 rfl) f11 sb_Wtr_Wtr), (by omega)⟩
    · intro h15
      refine wp_al1 jF_281_20 rfl rfl (pc2 := 21) ?_
      refine wp_gr (b := 149) jF_281_21 kd117 (by decide) (c := 249) rfl rfl rfl (pc2 := 24) ?_
      refine wp_il1 jF_281_24 rfl rfl (pc2 := 25) ?_
      refine wp_al1 jF_281_25 rfl rfl (pc2 := 26) ?_
      refine wp_gr (b := 149) jF_281_26 kd117 (by decide) (c := 249) rfl rfl rfl (pc2 := 29) ?_
      refine wp_il1 jF_281_29 rfl rfl (pc2 := 30) ?_
      refine wp_ic jF_281_30 rfl (pc2 := 31) ?_
      refine wp_add jF_281_31 rfl (pc2 := 32) ?_
      have b16 := GI.b g10 149 (x7 + 1).toNat kd149 (lo := 0) (hi := 255) rfl
      refine wp_iald (n := 64) (e := (τ9.1 149 (x7 + 1).toNat)) jF_281_32 kd149 (by decide) rfl rfl (by omega) (by omega) rfl rfl (pc2 := 33) ?_
      refine wp_iast (n := 64) jF_281_33 kd149 (by decide) rfl rfl (by omega) (by omega) rfl (pc2 := 34) g10 (lo := 0) (hi := 255) rfl (by omega) (by omega) ?_
      intro τ17 g18 f19 e20
      refine wp_inc (lv2 := [(0, .ref 117), (1, iV place), (2, iV (x7 + 1))]) jF_281_34 rfl rfl rfl rfl (pc2 := 37) ?_
      refine wp_go jF_281_37 ?_
      have q21 : (τ17.1 117 49) = (τ9.1 117 49) := (FRw.na f19 (by decide))
      exact ih13 ((x7 + 1)) τ17 ⟨⟨by omega, by omega⟩, g18, (FR.w f11 f19 rfl), (by omega)⟩ (by show Int.toNat (61 - (x7 + 1)) < Int.toNat (61 - x7); omega)
set_option maxHeartbeats 4000000 in
set_option maxRecDepth 20000 in
/-- M.putsIn -/
theorem m_289 (σ : jM) (hg : GI σ) (place : Int) (hl_place : 0 ≤ place) (hu_place : place ≤ 60) (sign : Int) (hl_sign : 0 ≤ sign) (hu_sign : sign ≤ 22) (pre0 : place ≤ (σ.1 117 49)) (pre1 : (σ.1 117 49) ≤ 60) (fr lo : Nat) (hfr : 0 ≤ fr) (hlo : 0 ≤ lo) : WP 289 0 (lv_args 0 [.ref 117, iV place, iV sign]) [] fr lo σ (fun v τ => v = none ∧ GI τ ∧ FR Wtr σ τ ∧ ((τ.1 117 49) = (σ.1 117 49) + 1)) := by
  show WP 289 0 [(0, .ref 117), (1, iV place), (2, iV sign)] [] _ _ _ _
  refine wp_al1 jF_289_0 rfl rfl (pc2 := 1) ?_
  have b1 := GI.b hg 117 49 kd117 (lo := 0) (hi := 61) rfl
  refine wp_gi jF_289_1 kd117 (by decide) rfl rfl rfl (pc2 := 4) ?_
  refine wp_is1 (lv2 := [(0, .ref 117), (1, iV place), (2, iV sign), (3, iV (σ.1 117 49))]) jF_289_4 rfl rfl rfl (pc2 := 5) ?_
  refine wp_loop (α := Int) (fun a => [(0, .ref 117), (1, iV place), (2, iV sign), (3, iV (a))]) (fun a τ => (0 ≤ a ∧ a ≤ 60) ∧ GI τ ∧ FR Wtr σ τ ∧ ((τ.1 117 49) = (σ.1 117 49)) ∧ (place ≤ (a))) (fun a τ => Int.toNat ((a))) ((σ.1 117 49)) σ ?_ ?_
  · skip
    exact ⟨⟨by omega, by omega⟩, hg, FR.rf, (by omega), (by omega)⟩
  · rintro x2 τ4 ⟨h3, g5, f6, p7, p8⟩ ih9
    have b10 := GI.b g5 117 49 kd117 (lo := 0) (hi := 61) rfl
    show WP 289 5 [(0, .ref 117), (1, iV place), (2, iV sign), (3, iV x2)] [] _ _ _ _
    show WP 289 5 [(0, .ref 117), (1, iV place), (2, iV sign), (3, iV x2)] [] _ _ _ _
    refine wp_il1 jF_289_5 rfl rfl (pc2 := 6) ?_
    refine wp_il1 jF_289_6 rfl rfl (pc2 := 7) ?_
    refine wp_i_le jF_289_7 (m_rgb h3 rfl) ⟨by omega, by omega⟩ rfl (pc2 := 10) ?_ ?_
    · intro h11
      refine wp_al1 jF_289_30 rfl rfl (pc2 := 31) ?_
      refine wp_gr (b := 149) jF_289_31 kd117 (by decide) (c := 249) rfl rfl rfl (pc2 := 34) ?_
      refine wp_il1 jF_289_34 rfl rfl (pc2 := 35) ?_
      refine wp_il1 jF_289_35 rfl rfl (pc2 := 36) ?_
      refine wp_iast (n := 64) jF_289_36 kd149 (by decide) rfl rfl (by omega) (by omega) rfl (pc2 := 37) g5 (lo := 0) (hi := 255) rfl (by omega) (by omega) ?_
      intro τ12 g13 f14 e15
      refine wp_al1 jF_289_37 rfl rfl (pc2 := 38) ?_
      refine wp_dup jF_289_38 rfl rfl (pc2 := 39) ?_
      refine wp_gi jF_289_39 kd117 (by decide) rfl (FRw.na f14 (by decide)) rfl (pc2 := 42) ?_
      refine wp_ic jF_289_42 rfl (pc2 := 43) ?_
      refine wp_add jF_289_43 rfl (pc2 := 44) ?_
      refine wp_pi jF_289_44 kd117 (by decide) rfl rfl rfl (pc2 := 47) g13 (lo := 0) (hi := 61) rfl (by omega) (by omega) ?_
      intro τ16 g17 f18 e19
      refine wp_rv jF_289_47 ?_
      have q20 : (τ16.1 117 49) = ((τ4.1 117 49) + 1) := e19
      exact ⟨rfl, g17, (FR.w (FR.w f6 f14 rfl) f18 rfl), (by omega)⟩
    · intro h11
      refine wp_al1 jF_289_10 rfl rfl (pc2 := 11) ?_
      refine wp_gr (b := 149) jF_289_11 kd117 (by decide) (c := 249) rfl rfl rfl (pc2 := 14) ?_
      refine wp_il1 jF_289_14 rfl rfl (pc2 := 15) ?_
      refine wp_al1 jF_289_15 rfl rfl (pc2 := 16) ?_
      refine wp_gr (b := 149) jF_289_16 kd117 (by decide) (c := 249) rfl rfl rfl (pc2 := 19) ?_
      refine wp_il1 jF_289_19 rfl rfl (pc2 := 20) ?_
      refine wp_ic jF_289_20 rfl (pc2 := 21) ?_
      refine wp_sub jF_289_21 rfl (pc2 := 22) ?_
      have b21 := GI.b g5 149 (x2 - 1).toNat kd149 (lo := 0) (hi := 255) rfl
      refine wp_iald (n := 64) (e := (τ4.1 149 (x2 - 1).toNat)) jF_289_22 kd149 (by decide) rfl rfl (by omega) (by omega) rfl rfl (pc2 := 23) ?_
      refine wp_iast (n := 64) jF_289_23 kd149 (by decide) rfl rfl (by omega) (by omega) rfl (pc2 := 24) g5 (lo := 0) (hi := 255) rfl (by omega) (by omega) ?_
      intro τ22 g23 f24 e25
      refine wp_inc (lv2 := [(0, .ref 117), (1, iV place), (2, iV sign), (3, iV (x2 + (-1)))]) jF_289_24 rfl rfl rfl rfl (pc2 := 27) ?_
      refine wp_go jF_289_27 ?_
      have q26 : (τ22.1 117 49) = (τ4.1 117 49) := (FRw.na f24 (by decide))
      exact ih9 ((x2 + (-1))) τ22 ⟨⟨by omega, by omega⟩, g23, (FR.w f6 f24 rfl), (by omega), (by omega)⟩ (by show Int.toNat ((x2 + (-1))) < Int.toNat (x2); omega)
set_option maxHeartbeats 4000000 in
set_option maxRecDepth 20000 in
/-- M.triesOther -/
theorem m_288_0 (σ : jM) (hg : GI σ) (how : Int) (hl_how : 0 ≤ how) (hu_how : how ≤ 2) (place : Int) (hl_place : (-2147483648) ≤ place) (hu_place : place ≤ 2147483647) (sign : Int) (hl_sign : (-2147483648) ≤ sign) (hu_sign : sign ≤ 2147483647)  (fr lo : Nat) (hfr : 1 ≤ fr) (hlo : 25 ≤ lo) : WP 288 0 (lv_args 0 [.ref 117, iV 0, iV how, iV place, iV sign]) [] fr lo σ (fun v τ => ∃ z : Int, v = some (iV z) ∧ (0 ≤ z ∧ z ≤ 1) ∧ GI τ ∧ FR Wtr σ τ) := by
  show WP 288 0 [(0, .ref 117), (1, iV 0), (2, iV how), (3, iV place), (4, iV sign)] [] _ _ _ _
  refine wp_al1 jF_288_0 rfl rfl (pc2 := 1) ?_
  refine wp_il1 jF_288_1 rfl rfl (pc2 := 2) ?_
  refine wp_cV (as := [iV 0]) (rest := []) (a := 117) (mx := 3) (ci := 12) jF_288_2 kd117 (by decide) rfl rfl rfl rfl rfl (by omega) (by omega) rfl (pc2 := 5) ?_
  have b1 := GI.b hg 148 0 kd148 (lo := 0) (hi := 60) rfl
  refine wp_use (m_271_0 σ hg   _ _ (by omega) (by omega)) ?_
  rintro _ τ4 ⟨rfl, g5, f6, p2, p3⟩
  show WP 288 5 [(0, .ref 117), (1, iV 0), (2, iV how), (3, iV place), (4, iV sign)] [] _ _ _ _
  refine wp_il1 jF_288_5 rfl rfl (pc2 := 6) ?_
  refine wp_i2l jF_288_6 rfl (pc2 := 7) ?_
  refine wp_lc jF_288_7 rfl (pc2 := 8) ?_
  refine wp_il1 jF_288_8 rfl rfl (pc2 := 9) ?_
  refine wp_z_ne jF_288_9 ⟨by omega, by omega⟩ rfl (pc2 := 12) ?_ ?_
  · intro h7
    refine wp_al1 jF_288_20 rfl rfl (pc2 := 21) ?_
    have b8 := GI.b g5 117 49 kd117 (lo := 0) (hi := 61) rfl
    refine wp_gi jF_288_21 kd117 (by decide) rfl rfl rfl (pc2 := 24) ?_
    refine wp_ic jF_288_24 rfl (pc2 := 25) ?_
    refine wp_sub jF_288_25 rfl (pc2 := 26) ?_
    refine wp_i2l jF_288_26 rfl (pc2 := 27) ?_
    refine wp_cS (as := [.long (Int32.toInt64 (Int32.ofInt place)), .long (Int64.ofNat 0), .long (Int32.toInt64 (Int32.ofInt ((τ4.1 117 49) - 1)))]) (rest := []) (mx := 6) jF_288_27 rfl rfl rfl rfl (by omega) (by omega) rfl (pc2 := 30) ?_
    show WP 232 0 [(0, .long (Int32.toInt64 (Int32.ofInt place))), (2, .long (Int64.ofNat 0)), (4, .long (Int32.toInt64 (Int32.ofInt ((τ4.1 117 49) - 1))))] [] _ _ _ _
    refine wp_ll1 jF_232_0 rfl rfl (pc2 := 1) ?_
    refine wp_ll1 jF_232_1 rfl rfl (pc2 := 2) ?_
    refine wp_lcmp2 (a := place) (b := 0) jF_232_2 (m_i2lt ⟨by omega, by omega⟩) (by decide) rfl (pc2 := 3) ?_
    intro z9 h10
    refine wp_z_lt jF_232_3 ⟨by omega, by omega⟩ rfl (pc2 := 6) ?_ ?_
    · intro h11
      refine wp_ic jF_232_17 rfl (pc2 := 18) ?_
      refine wp_ri jF_232_18 rfl ?_
      show WP 288 30 [(0, .ref 117), (1, iV 0), (2, iV how), (3, iV place), (4, iV sign)] [iV 0] _ _ _ _
      refine wp_z_eq jF_288_30 (m_rgl rfl) rfl (pc2 := 33) ?_ ?_
      · intro h12
        refine wp_ic jF_288_51 rfl (pc2 := 52) ?_
        refine wp_ri jF_288_52 rfl ?_
        exact ⟨0, rfl, ⟨by omega, by omega⟩, g5, f6⟩
      · intro h12; exfalso; omega
    · intro h11
      refine wp_ll1 jF_232_6 rfl rfl (pc2 := 7) ?_
      refine wp_ll2 jF_232_7 rfl rfl (pc2 := 9) ?_
      refine wp_lcmp2 (a := place) (b := ((τ4.1 117 49) - 1)) jF_232_9 (m_i2lt ⟨by omega, by omega⟩) (m_i2lt ⟨by omega, by omega⟩) rfl (pc2 := 10) ?_
      intro z13 h14
      refine wp_z_gt jF_232_10 ⟨by omega, by omega⟩ rfl (pc2 := 13) ?_ ?_
      · intro h15
        refine wp_ic jF_232_17 rfl (pc2 := 18) ?_
        refine wp_ri jF_232_18 rfl ?_
        show WP 288 30 [(0, .ref 117), (1, iV 0), (2, iV how), (3, iV place), (4, iV sign)] [iV 0] _ _ _ _
        refine wp_z_eq jF_288_30 (m_rgl rfl) rfl (pc2 := 33) ?_ ?_
        · intro h16
          refine wp_ic jF_288_51 rfl (pc2 := 52) ?_
          refine wp_ri jF_288_52 rfl ?_
          exact ⟨0, rfl, ⟨by omega, by omega⟩, g5, f6⟩
        · intro h16; exfalso; omega
      · intro h15
        refine wp_ic jF_232_13 rfl (pc2 := 14) ?_
        refine wp_go jF_232_14 ?_
        refine wp_ri jF_232_18 rfl ?_
        show WP 288 30 [(0, .ref 117), (1, iV 0), (2, iV how), (3, iV place), (4, iV sign)] [iV 1] _ _ _ _
        refine wp_z_eq jF_288_30 (m_rgl rfl) rfl (pc2 := 33) ?_ ?_
        · intro h17; exfalso; omega
        · intro h17
          refine wp_il1 jF_288_33 rfl rfl (pc2 := 34) ?_
          refine wp_ic jF_288_34 rfl (pc2 := 35) ?_
          refine wp_i_eq jF_288_35 ⟨by omega, by omega⟩ (m_rgl rfl) rfl (pc2 := 38) ?_ ?_
          · intro h18
            refine wp_il1 jF_288_53 rfl rfl (pc2 := 54) ?_
            refine wp_ic jF_288_54 rfl (pc2 := 55) ?_
            refine wp_i_ne jF_288_55 ⟨by omega, by omega⟩ (m_rgl rfl) rfl (pc2 := 58) ?_ ?_
            · intro h19
              refine wp_il1 jF_288_71 rfl rfl (pc2 := 72) ?_
              refine wp_z_ne jF_288_72 ⟨by omega, by omega⟩ rfl (pc2 := 75) ?_ ?_
              · intro h20
                refine wp_il1 jF_288_96 rfl rfl (pc2 := 97) ?_
                refine wp_ic jF_288_97 rfl (pc2 := 98) ?_
                refine wp_i_ne jF_288_98 ⟨by omega, by omega⟩ (m_rgl rfl) rfl (pc2 := 101) ?_ ?_
                · intro h21; exfalso; omega
                · intro h21
                  refine wp_al1 jF_288_101 rfl rfl (pc2 := 102) ?_
                  refine wp_il1 jF_288_102 rfl rfl (pc2 := 103) ?_
                  refine wp_cV (as := [iV place]) (rest := []) (a := 117) (mx := 3) (ci := 12) jF_288_103 kd117 (by decide) rfl rfl rfl rfl rfl (by omega) (by omega) rfl (pc2 := 106) ?_
                  refine wp_use (m_281 τ4 g5 place (by omega) (by omega) (by omega) _ _ (by omega) (by omega)) ?_
                  rintro _ τ23 ⟨rfl, g24, f25, p22⟩
                  show WP 288 106 [(0, .ref 117), (1, iV 0), (2, iV how), (3, iV place), (4, iV sign)] [] _ _ _ _
                  refine wp_go jF_288_106 ?_
                  refine wp_ic jF_288_117 rfl (pc2 := 118) ?_
                  refine wp_ri jF_288_118 rfl ?_
                  exact ⟨1, rfl, ⟨by omega, by omega⟩, g24, (FR.up f6 f25 sb_Wtr_Wtr)⟩
              · intro h20; exfalso; omega
            · intro h19; exfalso; omega
          · intro h18
            refine wp_il2 jF_288_38 rfl rfl (pc2 := 40) ?_
            refine wp_i2l jF_288_40 rfl (pc2 := 41) ?_
            refine wp_lc jF_288_41 rfl (pc2 := 42) ?_
            refine wp_ld jF_288_42 rfl (pc2 := 45) ?_
            refine wp_cS (as := [.long (Int32.toInt64 (Int32.ofInt sign)), .long (Int64.ofNat 0), .long (22)]) (rest := []) (mx := 6) jF_288_45 rfl rfl rfl rfl (by omega) (by omega) rfl (pc2 := 48) ?_
            show WP 232 0 [(0, .long (Int32.toInt64 (Int32.ofInt sign))), (2, .long (Int64.ofNat 0)), (4, .long (22))] [] _ _ _ _
            refine wp_ll1 jF_232_0 rfl rfl (pc2 := 1) ?_
            refine wp_ll1 jF_232_1 rfl rfl (pc2 := 2) ?_
            refine wp_lcmp2 (a := sign) (b := 0) jF_232_2 (m_i2lt ⟨by omega, by omega⟩) (by decide) rfl (pc2 := 3) ?_
            intro z26 h27
            refine wp_z_lt jF_232_3 ⟨by omega, by omega⟩ rfl (pc2 := 6) ?_ ?_
            · intro h28
              refine wp_ic jF_232_17 rfl (pc2 := 18) ?_
              refine wp_ri jF_232_18 rfl ?_
              show WP 288 48 [(0, .ref 117), (1, iV 0), (2, iV how), (3, iV place), (4, iV sign)] [iV 0] _ _ _ _
              refine wp_z_ne jF_288_48 (m_rgl rfl) rfl (pc2 := 51) ?_ ?_
              · intro h29; exfalso; omega
              · intro h29
                refine wp_ic jF_288_51 rfl (pc2 := 52) ?_
                refine wp_ri jF_288_52 rfl ?_
                exact ⟨0, rfl, ⟨by omega, by omega⟩, g5, f6⟩
            · intro h28
              refine wp_ll1 jF_232_6 rfl rfl (pc2 := 7) ?_
              refine wp_ll2 jF_232_7 rfl rfl (pc2 := 9) ?_
              refine wp_lcmp2 (a := sign) (b := 22) jF_232_9 (m_i2lt ⟨by omega, by omega⟩) (by decide) rfl (pc2 := 10) ?_
              intro z30 h31
              refine wp_z_gt jF_232_10 ⟨by omega, by omega⟩ rfl (pc2 := 13) ?_ ?_
              · intro h32
                refine wp_ic jF_232_17 rfl (pc2 := 18) ?_
                refine wp_ri jF_232_18 rfl ?_
                show WP 288 48 [(0, .ref 117), (1, iV 0), (2, iV how), (3, iV place), (4, iV sign)] [iV 0] _ _ _ _
                refine wp_z_ne jF_288_48 (m_rgl rfl) rfl (pc2 := 51) ?_ ?_
                · intro h33; exfalso; omega
                · intro h33
                  refine wp_ic jF_288_51 rfl (pc2 := 52) ?_
                  refine wp_ri jF_288_52 rfl ?_
                  exact ⟨0, rfl, ⟨by omega, by omega⟩, g5, f6⟩
              · intro h32
                refine wp_ic jF_232_13 rfl (pc2 := 14) ?_
                refine wp_go jF_232_14 ?_
                refine wp_ri jF_232_18 rfl ?_
                show WP 288 48 [(0, .ref 117), (1, iV 0), (2, iV how), (3, iV place), (4, iV sign)] [iV 1] _ _ _ _
                refine wp_z_ne jF_288_48 (m_rgl rfl) rfl (pc2 := 51) ?_ ?_
                · intro h34
                  refine wp_il1 jF_288_53 rfl rfl (pc2 := 54) ?_
                  refine wp_ic jF_288_54 rfl (pc2 := 55) ?_
                  refine wp_i_ne jF_288_55 ⟨by omega, by omega⟩ (m_rgl rfl) rfl (pc2 := 58) ?_ ?_
                  · intro h35; exfalso; omega
                  · intro h35
                    refine wp_al1 jF_288_58 rfl rfl (pc2 := 59) ?_
                    refine wp_gr (b := 149) jF_288_59 kd117 (by decide) (c := 249) rfl rfl rfl (pc2 := 62) ?_
                    refine wp_il1 jF_288_62 rfl rfl (pc2 := 63) ?_
                    have b36 := GI.b g5 149 place.toNat kd149 (lo := 0) (hi := 255) rfl
                    refine wp_iald (n := 64) (e := (τ4.1 149 place.toNat)) jF_288_63 kd149 (by decide) rfl rfl (by omega) (by omega) rfl rfl (pc2 := 64) ?_
                    refine wp_il2 jF_288_64 rfl rfl (pc2 := 66) ?_
                    refine wp_i_ne jF_288_66 (m_rgb b36 rfl) ⟨by omega, by omega⟩ rfl (pc2 := 69) ?_ ?_
                    · intro h37
                      refine wp_il1 jF_288_71 rfl rfl (pc2 := 72) ?_
                      refine wp_z_ne jF_288_72 ⟨by omega, by omega⟩ rfl (pc2 := 75) ?_ ?_
                      · intro h38
                        refine wp_il1 jF_288_96 rfl rfl (pc2 := 97) ?_
                        refine wp_ic jF_288_97 rfl (pc2 := 98) ?_
                        refine wp_i_ne jF_288_98 ⟨by omega, by omega⟩ (m_rgl rfl) rfl (pc2 := 101) ?_ ?_
                        · intro h39
                          refine wp_al1 jF_288_109 rfl rfl (pc2 := 110) ?_
                          refine wp_gr (b := 149) jF_288_110 kd117 (by decide) (c := 249) rfl rfl rfl (pc2 := 113) ?_
                          refine wp_il1 jF_288_113 rfl rfl (pc2 := 114) ?_
                          refine wp_il2 jF_288_114 rfl rfl (pc2 := 116) ?_
                          refine wp_iast (n := 64) jF_288_116 kd149 (by decide) rfl rfl (by omega) (by omega) rfl (pc2 := 117) g5 (lo := 0) (hi := 255) rfl (by omega) (by omega) ?_
                          intro τ40 g41 f42 e43
                          refine wp_ic jF_288_117 rfl (pc2 := 118) ?_
                          refine wp_ri jF_288_118 rfl ?_
                          exact ⟨1, rfl, ⟨by omega, by omega⟩, g41, (FR.w f6 f42 rfl)⟩
                        · intro h39; exfalso; omega
                      · intro h38; exfalso; omega
                    · intro h37
                      refine wp_ic jF_288_69 rfl (pc2 := 70) ?_
                      refine wp_ri jF_288_70 rfl ?_
                      exact ⟨0, rfl, ⟨by omega, by omega⟩, g5, f6⟩
                · intro h34; exfalso; omega
  · intro h7
    refine wp_al1 jF_288_12 rfl rfl (pc2 := 13) ?_
    have b44 := GI.b g5 117 49 kd117 (lo := 0) (hi := 61) rfl
    refine wp_gi jF_288_13 kd117 (by decide) rfl rfl rfl (pc2 := 16) ?_
    refine wp_i2l jF_288_16 rfl (pc2 := 17) ?_
    refine wp_go jF_288_17 ?_
    refine wp_cS (as := [.long (Int32.toInt64 (Int32.ofInt place)), .long (Int64.ofNat 0), .long (Int32.toInt64 (Int32.ofInt (τ4.1 117 49)))]) (rest := []) (mx := 6) jF_288_27 rfl rfl rfl rfl (by omega) (by omega) rfl (pc2 := 30) ?_
    show WP 232 0 [(0, .long (Int32.toInt64 (Int32.ofInt place))), (2, .long (Int64.ofNat 0)), (4, .long (Int32.toInt64 (Int32.ofInt (τ4.1 117 49))))] [] _ _ _ _
    refine wp_ll1 jF_232_0 rfl rfl (pc2 := 1) ?_
    refine wp_ll1 jF_232_1 rfl rfl (pc2 := 2) ?_
    refine wp_lcmp2 (a := place) (b := 0) jF_232_2 (m_i2lt ⟨by omega, by omega⟩) (by decide) rfl (pc2 := 3) ?_
    intro z45 h46
    refine wp_z_lt jF_232_3 ⟨by omega, by omega⟩ rfl (pc2 := 6) ?_ ?_
    · intro h47
      refine wp_ic jF_232_17 rfl (pc2 := 18) ?_
      refine wp_ri jF_232_18 rfl ?_
      show WP 288 30 [(0, .ref 117), (1, iV 0), (2, iV how), (3, iV place), (4, iV sign)] [iV 0] _ _ _ _
      refine wp_z_eq jF_288_30 (m_rgl rfl) rfl (pc2 := 33) ?_ ?_
      · intro h48
        refine wp_ic jF_288_51 rfl (pc2 := 52) ?_
        refine wp_ri jF_288_52 rfl ?_
        exact ⟨0, rfl, ⟨by omega, by omega⟩, g5, f6⟩
      · intro h48; exfalso; omega
    · intro h47
      refine wp_ll1 jF_232_6 rfl rfl (pc2 := 7) ?_
      refine wp_ll2 jF_232_7 rfl rfl (pc2 := 9) ?_
      refine wp_lcmp2 (a := place) (b := (τ4.1 117 49)) jF_232_9 (m_i2lt ⟨by omega, by omega⟩) (m_i2lt (m_rgb b44 rfl)) rfl (pc2 := 10) ?_
      intro z49 h50
      refine wp_z_gt jF_232_10 ⟨by omega, by omega⟩ rfl (pc2 := 13) ?_ ?_
      · intro h51
        refine wp_ic jF_232_17 rfl (pc2 := 18) ?_
        refine wp_ri jF_232_18 rfl ?_
        show WP 288 30 [(0, .ref 117), (1, iV 0), (2, iV how), (3, iV place), (4, iV sign)] [iV 0] _ _ _ _
        refine wp_z_eq jF_288_30 (m_rgl rfl) rfl (pc2 := 33) ?_ ?_
        · intro h52
          refine wp_ic jF_288_51 rfl (pc2 := 52) ?_
          refine wp_ri jF_288_52 rfl ?_
          exact ⟨0, rfl, ⟨by omega, by omega⟩, g5, f6⟩
        · intro h52; exfalso; omega
      · intro h51
        refine wp_ic jF_232_13 rfl (pc2 := 14) ?_
        refine wp_go jF_232_14 ?_
        refine wp_ri jF_232_18 rfl ?_
        show WP 288 30 [(0, .ref 117), (1, iV 0), (2, iV how), (3, iV place), (4, iV sign)] [iV 1] _ _ _ _
        refine wp_z_eq jF_288_30 (m_rgl rfl) rfl (pc2 := 33) ?_ ?_
        · intro h53; exfalso; omega
        · intro h53
          refine wp_il1 jF_288_33 rfl rfl (pc2 := 34) ?_
          refine wp_ic jF_288_34 rfl (pc2 := 35) ?_
          refine wp_i_eq jF_288_35 ⟨by omega, by omega⟩ (m_rgl rfl) rfl (pc2 := 38) ?_ ?_
          · intro h54; exfalso; omega
          · intro h54
            refine wp_il2 jF_288_38 rfl rfl (pc2 := 40) ?_
            refine wp_i2l jF_288_40 rfl (pc2 := 41) ?_
            refine wp_lc jF_288_41 rfl (pc2 := 42) ?_
            refine wp_ld jF_288_42 rfl (pc2 := 45) ?_
            refine wp_cS (as := [.long (Int32.toInt64 (Int32.ofInt sign)), .long (Int64.ofNat 0), .long (22)]) (rest := []) (mx := 6) jF_288_45 rfl rfl rfl rfl (by omega) (by omega) rfl (pc2 := 48) ?_
            show WP 232 0 [(0, .long (Int32.toInt64 (Int32.ofInt sign))), (2, .long (Int64.ofNat 0)), (4, .long (22))] [] _ _ _ _
            refine wp_ll1 jF_232_0 rfl rfl (pc2 := 1) ?_
            refine wp_ll1 jF_232_1 rfl rfl (pc2 := 2) ?_
            refine wp_lcmp2 (a := sign) (b := 0) jF_232_2 (m_i2lt ⟨by omega, by omega⟩) (by decide) rfl (pc2 := 3) ?_
            intro z55 h56
            refine wp_z_lt jF_232_3 ⟨by omega, by omega⟩ rfl (pc2 := 6) ?_ ?_
            · intro h57
              refine wp_ic jF_232_17 rfl (pc2 := 18) ?_
              refine wp_ri jF_232_18 rfl ?_
              show WP 288 48 [(0, .ref 117), (1, iV 0), (2, iV how), (3, iV place), (4, iV sign)] [iV 0] _ _ _ _
              refine wp_z_ne jF_288_48 (m_rgl rfl) rfl (pc2 := 51) ?_ ?_
              · intro h58; exfalso; omega
              · intro h58
                refine wp_ic jF_288_51 rfl (pc2 := 52) ?_
                refine wp_ri jF_288_52 rfl ?_
                exact ⟨0, rfl, ⟨by omega, by omega⟩, g5, f6⟩
            · intro h57
              refine wp_ll1 jF_232_6 rfl rfl (pc2 := 7) ?_
              refine wp_ll2 jF_232_7 rfl rfl (pc2 := 9) ?_
              refine wp_lcmp2 (a := sign) (b := 22) jF_232_9 (m_i2lt ⟨by omega, by omega⟩) (by decide) rfl (pc2 := 10) ?_
              intro z59 h60
              refine wp_z_gt jF_232_10 ⟨by omega, by omega⟩ rfl (pc2 := 13) ?_ ?_
              · intro h61
                refine wp_ic jF_232_17 rfl (pc2 := 18) ?_
                refine wp_ri jF_232_18 rfl ?_
                show WP 288 48 [(0, .ref 117), (1, iV 0), (2, iV how), (3, iV place), (4, iV sign)] [iV 0] _ _ _ _
                refine wp_z_ne jF_288_48 (m_rgl rfl) rfl (pc2 := 51) ?_ ?_
                · intro h62; exfalso; omega
                · intro h62
                  refine wp_ic jF_288_51 rfl (pc2 := 52) ?_
                  refine wp_ri jF_288_52 rfl ?_
                  exact ⟨0, rfl, ⟨by omega, by omega⟩, g5, f6⟩
              · intro h61
                refine wp_ic jF_232_13 rfl (pc2 := 14) ?_
                refine wp_go jF_232_14 ?_
                refine wp_ri jF_232_18 rfl ?_
                show WP 288 48 [(0, .ref 117), (1, iV 0), (2, iV how), (3, iV place), (4, iV sign)] [iV 1] _ _ _ _
                refine wp_z_ne jF_288_48 (m_rgl rfl) rfl (pc2 := 51) ?_ ?_
                · intro h63
                  refine wp_il1 jF_288_53 rfl rfl (pc2 := 54) ?_
                  refine wp_ic jF_288_54 rfl (pc2 := 55) ?_
                  refine wp_i_ne jF_288_55 ⟨by omega, by omega⟩ (m_rgl rfl) rfl (pc2 := 58) ?_ ?_
                  · intro h64
                    refine wp_il1 jF_288_71 rfl rfl (pc2 := 72) ?_
                    refine wp_z_ne jF_288_72 ⟨by omega, by omega⟩ rfl (pc2 := 75) ?_ ?_
                    · intro h65; exfalso; omega
                    · intro h65
                      refine wp_al1 jF_288_75 rfl rfl (pc2 := 76) ?_
                      refine wp_gi jF_288_76 kd117 (by decide) rfl rfl rfl (pc2 := 79) ?_
                      refine wp_bi jF_288_79 (by decide) rfl (pc2 := 81) ?_
                      refine wp_i_ne jF_288_81 (m_rgb b44 rfl) (m_rgl rfl) rfl (pc2 := 84) ?_ ?_
                      · intro h66
                        refine wp_al1 jF_288_86 rfl rfl (pc2 := 87) ?_
                        refine wp_il1 jF_288_87 rfl rfl (pc2 := 88) ?_
                        refine wp_il2 jF_288_88 rfl rfl (pc2 := 90) ?_
                        refine wp_cV (as := [iV place, iV sign]) (rest := []) (a := 117) (mx := 4) (ci := 12) jF_288_90 kd117 (by decide) rfl rfl rfl rfl rfl (by omega) (by omega) rfl (pc2 := 93) ?_
                        refine wp_use (m_289 τ4 g5 place (by omega) (by omega) sign (by omega) (by omega) (by omega) (by omega) _ _ (by omega) (by omega)) ?_
                        rintro _ τ68 ⟨rfl, g69, f70, p67⟩
                        show WP 288 93 [(0, .ref 117), (1, iV 0), (2, iV how), (3, iV place), (4, iV sign)] [] _ _ _ _
                        refine wp_go jF_288_93 ?_
                        refine wp_ic jF_288_117 rfl (pc2 := 118) ?_
                        refine wp_ri jF_288_118 rfl ?_
                        exact ⟨1, rfl, ⟨by omega, by omega⟩, g69, (FR.up f6 f70 sb_Wtr_Wtr)⟩
                      · intro h66
                        refine wp_ic jF_288_84 rfl (pc2 := 85) ?_
                        refine wp_ri jF_288_85 rfl ?_
                        exact ⟨0, rfl, ⟨by omega, by omega⟩, g5, f6⟩
                  · intro h64; exfalso; omega
                · intro h63; exfalso; omega
