set_option maxHeartbeats 4000000 in
set_option maxRecDepth 20000 in
/-- M.qWordHere -/
theorem m_333 (σ : jM) (hg : GI σ)   (fr lo : Nat) (hfr : 2 ≤ fr) (hlo : 43 ≤ lo) : WP 333 0 (lv_args 0 [.ref 117]) [] fr lo σ (fun v τ => ∃ z : Int, v = some (iV z) ∧ ((-1) ≤ z ∧ z ≤ 6) ∧ GI τ ∧ FR Wat σ τ ∧ ((σ.1 117 2) ≤ (τ.1 117 2)) ∧ ((nb σ) = 1 → ((τ.1 117 2) = (σ.1 117 2) ∧ (ch τ) = (ch σ) ∧ (nb τ) = 1))) := by
  show WP 333 0 [(0, .ref 117)] [] _ _ _ _
  refine wp_al1 jF_333_0 rfl rfl (pc2 := 1) ?_
  refine wp_al1 jF_333_1 rfl rfl (pc2 := 2) ?_
  refine wp_gr (b := 169) jF_333_2 kd117 (by decide) (c := 269) rfl rfl rfl (pc2 := 5) ?_
  refine wp_cV (as := [.ref 169]) (rest := []) (a := 117) (mx := 4) (ci := 12) jF_333_5 kd117 (by decide) rfl rfl rfl rfl rfl (by omega) (by omega) rfl (pc2 := 8) ?_
  have b1 := GI.b hg 117 2 kd117 (lo := 0) (hi := 1601) rfl
  have b2 := GI.b hg 117 3 kd117 (lo := 0) (hi := 1600) rfl
  have b3 := GI.b hg 117 5 kd117 (lo := (-2147483648)) (hi := 2147483647) rfl
  refine wp_use (m_220 σ hg 169 4 cw169.1 cw169.2 (by decide)  _ _ (by omega) (by omega)) ?_
  rintro _ τ7 ⟨z10, rfl, h11, g8, f9, p4, p5, p6⟩
  show WP 333 8 [(0, .ref 117)] [iV z10] _ _ _ _
  refine wp_z_eq jF_333_8 (m_rgb h11 rfl) rfl (pc2 := 11) ?_ ?_
  · intro h12
    clear p5
    refine wp_al1 jF_333_13 rfl rfl (pc2 := 14) ?_
    refine wp_al1 jF_333_14 rfl rfl (pc2 := 15) ?_
    refine wp_gr (b := 170) jF_333_15 kd117 (by decide) (c := 270) rfl rfl rfl (pc2 := 18) ?_
    refine wp_cV (as := [.ref 170]) (rest := []) (a := 117) (mx := 4) (ci := 12) jF_333_18 kd117 (by decide) rfl rfl rfl rfl rfl (by omega) (by omega) rfl (pc2 := 21) ?_
    have b13 := GI.b g8 117 2 kd117 (lo := 0) (hi := 1601) rfl
    have q14 : (τ7.1 117 3) = (σ.1 117 3) := (FR.at f9 117 3 rfl)
    have q15 : (τ7.1 117 5) = (σ.1 117 5) := (FR.at f9 117 5 rfl)
    refine wp_use (m_220 τ7 g8 170 3 cw170.1 cw170.2 (by decide)  _ _ (by omega) (by omega)) ?_
    rintro _ τ19 ⟨z22, rfl, h23, g20, f21, p16, p17, p18⟩
    show WP 333 21 [(0, .ref 117)] [iV z22] _ _ _ _
    refine wp_z_eq jF_333_21 (m_rgb h23 rfl) rfl (pc2 := 24) ?_ ?_
    · intro h24
      clear p17
      refine wp_al1 jF_333_26 rfl rfl (pc2 := 27) ?_
      refine wp_al1 jF_333_27 rfl rfl (pc2 := 28) ?_
      refine wp_gr (b := 171) jF_333_28 kd117 (by decide) (c := 271) rfl rfl rfl (pc2 := 31) ?_
      refine wp_cV (as := [.ref 171]) (rest := []) (a := 117) (mx := 4) (ci := 12) jF_333_31 kd117 (by decide) rfl rfl rfl rfl rfl (by omega) (by omega) rfl (pc2 := 34) ?_
      have b25 := GI.b g20 117 2 kd117 (lo := 0) (hi := 1601) rfl
      have q26 : (τ19.1 117 3) = (σ.1 117 3) := ((FR.at f21 117 3 rfl).trans (FR.at f9 117 3 rfl))
      have q27 : (τ19.1 117 5) = (σ.1 117 5) := ((FR.at f21 117 5 rfl).trans (FR.at f9 117 5 rfl))
      refine wp_use (m_220 τ19 g20 171 4 cw171.1 cw171.2 (by decide)  _ _ (by omega) (by omega)) ?_
      rintro _ τ31 ⟨z34, rfl, h35, g32, f33, p28, p29, p30⟩
      show WP 333 34 [(0, .ref 117)] [iV z34] _ _ _ _
      refine wp_z_eq jF_333_34 (m_rgb h35 rfl) rfl (pc2 := 37) ?_ ?_
      · intro h36
        clear p29
        refine wp_al1 jF_333_39 rfl rfl (pc2 := 40) ?_
        refine wp_al1 jF_333_40 rfl rfl (pc2 := 41) ?_
        refine wp_gr (b := 172) jF_333_41 kd117 (by decide) (c := 272) rfl rfl rfl (pc2 := 44) ?_
        refine wp_cV (as := [.ref 172]) (rest := []) (a := 117) (mx := 4) (ci := 12) jF_333_44 kd117 (by decide) rfl rfl rfl rfl rfl (by omega) (by omega) rfl (pc2 := 47) ?_
        have b37 := GI.b g32 117 2 kd117 (lo := 0) (hi := 1601) rfl
        have q38 : (τ31.1 117 3) = (σ.1 117 3) := ((FR.at f33 117 3 rfl).trans ((FR.at f21 117 3 rfl).trans (FR.at f9 117 3 rfl)))
        have q39 : (τ31.1 117 5) = (σ.1 117 5) := ((FR.at f33 117 5 rfl).trans ((FR.at f21 117 5 rfl).trans (FR.at f9 117 5 rfl)))
        refine wp_use (m_220 τ31 g32 172 4 cw172.1 cw172.2 (by decide)  _ _ (by omega) (by omega)) ?_
        rintro _ τ43 ⟨z46, rfl, h47, g44, f45, p40, p41, p42⟩
        show WP 333 47 [(0, .ref 117)] [iV z46] _ _ _ _
        refine wp_z_eq jF_333_47 (m_rgb h47 rfl) rfl (pc2 := 50) ?_ ?_
        · intro h48
          clear p41
          refine wp_al1 jF_333_52 rfl rfl (pc2 := 53) ?_
          refine wp_al1 jF_333_53 rfl rfl (pc2 := 54) ?_
          refine wp_gr (b := 173) jF_333_54 kd117 (by decide) (c := 273) rfl rfl rfl (pc2 := 57) ?_
          refine wp_cV (as := [.ref 173]) (rest := []) (a := 117) (mx := 4) (ci := 12) jF_333_57 kd117 (by decide) rfl rfl rfl rfl rfl (by omega) (by omega) rfl (pc2 := 60) ?_
          have b49 := GI.b g44 117 2 kd117 (lo := 0) (hi := 1601) rfl
          have q50 : (τ43.1 117 3) = (σ.1 117 3) := ((FR.at f45 117 3 rfl).trans ((FR.at f33 117 3 rfl).trans ((FR.at f21 117 3 rfl).trans (FR.at f9 117 3 rfl))))
          have q51 : (τ43.1 117 5) = (σ.1 117 5) := ((FR.at f45 117 5 rfl).trans ((FR.at f33 117 5 rfl).trans ((FR.at f21 117 5 rfl).trans (FR.at f9 117 5 rfl))))
          refine wp_use (m_220 τ43 g44 173 3 cw173.1 cw173.2 (by decide)  _ _ (by omega) (by omega)) ?_
          rintro _ τ55 ⟨z58, rfl, h59, g56, f57, p52, p53, p54⟩
          show WP 333 60 [(0, .ref 117)] [iV z58] _ _ _ _
          refine wp_z_eq jF_333_60 (m_rgb h59 rfl) rfl (pc2 := 63) ?_ ?_
          · intro h60
            clear p53
            refine wp_al1 jF_333_65 rfl rfl (pc2 := 66) ?_
            refine wp_al1 jF_333_66 rfl rfl (pc2 := 67) ?_
            refine wp_gr (b := 174) jF_333_67 kd117 (by decide) (c := 274) rfl rfl rfl (pc2 := 70) ?_
            refine wp_cV (as := [.ref 174]) (rest := []) (a := 117) (mx := 4) (ci := 12) jF_333_70 kd117 (by decide) rfl rfl rfl rfl rfl (by omega) (by omega) rfl (pc2 := 73) ?_
            have b61 := GI.b g56 117 2 kd117 (lo := 0) (hi := 1601) rfl
            have q62 : (τ55.1 117 3) = (σ.1 117 3) := ((FR.at f57 117 3 rfl).trans ((FR.at f45 117 3 rfl).trans ((FR.at f33 117 3 rfl).trans ((FR.at f21 117 3 rfl).trans (FR.at f9 117 3 rfl)))))
            have q63 : (τ55.1 117 5) = (σ.1 117 5) := ((FR.at f57 117 5 rfl).trans ((FR.at f45 117 5 rfl).trans ((FR.at f33 117 5 rfl).trans ((FR.at f21 117 5 rfl).trans (FR.at f9 117 5 rfl)))))
            refine wp_use (m_220 τ55 g56 174 5 cw174.1 cw174.2 (by decide)  _ _ (by omega) (by omega)) ?_
            rintro _ τ67 ⟨z70, rfl, h71, g68, f69, p64, p65, p66⟩
            show WP 333 73 [(0, .ref 117)] [iV z70] _ _ _ _
            refine wp_z_eq jF_333_73 (m_rgb h71 rfl) rfl (pc2 := 76) ?_ ?_
            · intro h72
              clear p65
              refine wp_al1 jF_333_78 rfl rfl (pc2 := 79) ?_
              refine wp_al1 jF_333_79 rfl rfl (pc2 := 80) ?_
              refine wp_gr (b := 175) jF_333_80 kd117 (by decide) (c := 275) rfl rfl rfl (pc2 := 83) ?_
              refine wp_cV (as := [.ref 175]) (rest := []) (a := 117) (mx := 4) (ci := 12) jF_333_83 kd117 (by decide) rfl rfl rfl rfl rfl (by omega) (by omega) rfl (pc2 := 86) ?_
              have b73 := GI.b g68 117 2 kd117 (lo := 0) (hi := 1601) rfl
              have q74 : (τ67.1 117 3) = (σ.1 117 3) := ((FR.at f69 117 3 rfl).trans ((FR.at f57 117 3 rfl).trans ((FR.at f45 117 3 rfl).trans ((FR.at f33 117 3 rfl).trans ((FR.at f21 117 3 rfl).trans (FR.at f9 117 3 rfl))))))
              have q75 : (τ67.1 117 5) = (σ.1 117 5) := ((FR.at f69 117 5 rfl).trans ((FR.at f57 117 5 rfl).trans ((FR.at f45 117 5 rfl).trans ((FR.at f33 117 5 rfl).trans ((FR.at f21 117 5 rfl).trans (FR.at f9 117 5 rfl))))))
              refine wp_use (m_220 τ67 g68 175 5 cw175.1 cw175.2 (by decide)  _ _ (by omega) (by omega)) ?_
              rintro _ τ79 ⟨z82, rfl, h83, g80, f81, p76, p77, p78⟩
              show WP 333 86 [(0, .ref 117)] [iV z82] _ _ _ _
              refine wp_z_eq jF_333_86 (m_rgb h83 rfl) rfl (pc2 := 89) ?_ ?_
              · intro h84
                clear p77
                refine wp_ic jF_333_92 rfl (pc2 := 93) ?_
                refine wp_ri jF_333_93 rfl ?_
                have b85 := GI.b g80 117 2 kd117 (lo := 0) (hi := 1601) rfl
                exact ⟨(-1), rfl, ⟨by omega, by omega⟩, g80, (FR.up (FR.up (FR.up (FR.up (FR.up (FR.up f9 f21 sb_Wat_Wat) f33 sb_Wat_Wat) f45 sb_Wat_Wat) f57 sb_Wat_Wat) f69 sb_Wat_Wat) f81 sb_Wat_Wat), (by omega), (by omega)⟩
              · intro h84
                replace p77 := p77 (by omega)
                refine wp_bi jF_333_89 (by decide) rfl (pc2 := 91) ?_
                refine wp_ri jF_333_91 rfl ?_
                have b86 := GI.b g80 117 2 kd117 (lo := 0) (hi := 1601) rfl
                exact ⟨6, rfl, ⟨by omega, by omega⟩, g80, (FR.up (FR.up (FR.up (FR.up (FR.up (FR.up f9 f21 sb_Wat_Wat) f33 sb_Wat_Wat) f45 sb_Wat_Wat) f57 sb_Wat_Wat) f69 sb_Wat_Wat) f81 sb_Wat_Wat), (by omega), (by omega)⟩
            · intro h72
              replace p65 := p65 (by omega)
              refine wp_ic jF_333_76 rfl (pc2 := 77) ?_
              refine wp_ri jF_333_77 rfl ?_
              have b87 := GI.b g68 117 2 kd117 (lo := 0) (hi := 1601) rfl
              exact ⟨5, rfl, ⟨by omega, by omega⟩, g68, (FR.up (FR.up (FR.up (FR.up (FR.up f9 f21 sb_Wat_Wat) f33 sb_Wat_Wat) f45 sb_Wat_Wat) f57 sb_Wat_Wat) f69 sb_Wat_Wat), (by omega), (by omega)⟩
          · intro h60
            replace p53 := p53 (by omega)
            refine wp_ic jF_333_63 rfl (pc2 := 64) ?_
            refine wp_ri jF_333_64 rfl ?_
            have b88 := GI.b g56 117 2 kd117 (lo := 0) (hi := 1601) rfl
            exact ⟨4, rfl, ⟨by omega, by omega⟩, g56, (FR.up (FR.up (FR.up (FR.up f9 f21 sb_Wat_Wat) f33 sb_Wat_Wat) f45 sb_Wat_Wat) f57 sb_Wat_Wat), (by omega), (by omega)⟩
        · intro h48
          replace p41 := p41 (by omega)
          refine wp_ic jF_333_50 rfl (pc2 := 51) ?_
          refine wp_ri jF_333_51 rfl ?_
          have b89 := GI.b g44 117 2 kd117 (lo := 0) (hi := 1601) rfl
          exact ⟨3, rfl, ⟨by omega, by omega⟩, g44, (FR.up (FR.up (FR.up f9 f21 sb_Wat_Wat) f33 sb_Wat_Wat) f45 sb_Wat_Wat), (by omega), (by omega)⟩
      · intro h36
        replace p29 := p29 (by omega)
        refine wp_ic jF_333_37 rfl (pc2 := 38) ?_
        refine wp_ri jF_333_38 rfl ?_
        have b90 := GI.b g32 117 2 kd117 (lo := 0) (hi := 1601) rfl
        exact ⟨2, rfl, ⟨by omega, by omega⟩, g32, (FR.up (FR.up f9 f21 sb_Wat_Wat) f33 sb_Wat_Wat), (by omega), (by omega)⟩
    · intro h24
      replace p17 := p17 (by omega)
      refine wp_ic jF_333_24 rfl (pc2 := 25) ?_
      refine wp_ri jF_333_25 rfl ?_
      have b91 := GI.b g20 117 2 kd117 (lo := 0) (hi := 1601) rfl
      exact ⟨1, rfl, ⟨by omega, by omega⟩, g20, (FR.up f9 f21 sb_Wat_Wat), (by omega), (by omega)⟩
  · intro h12
    replace p5 := p5 (by omega)
    refine wp_ic jF_333_11 rfl (pc2 := 12) ?_
    refine wp_ri jF_333_12 rfl ?_
    have b92 := GI.b g8 117 2 kd117 (lo := 0) (hi := 1601) rfl
    exact ⟨0, rfl, ⟨by omega, by omega⟩, g8, f9, (by omega), (by omega)⟩
set_option maxHeartbeats 4000000 in
set_option maxRecDepth 20000 in
/-- M.qWordOf -/
theorem m_332 (σ : jM) (hg : GI σ) (from1 : Int) (hl_from1 : 0 ≤ from1) (hu_from1 : from1 ≤ 6) (to1 : Int) (hl_to1 : 1 ≤ to1) (hu_to1 : to1 ≤ 7)  (fr lo : Nat) (hfr : 3 ≤ fr) (hlo : 63 ≤ lo) : WP 332 0 (lv_args 0 [.ref 117, iV from1, iV to1]) [] fr lo σ (fun v τ => ∃ z : Int, v = some (iV z) ∧ ((-1) ≤ z ∧ z ≤ 6) ∧ GI τ ∧ FR Wat σ τ ∧ ((σ.1 117 2) ≤ (τ.1 117 2)) ∧ ((nb σ) = 1 → ((τ.1 117 2) = (σ.1 117 2) ∧ (ch τ) = (ch σ) ∧ (nb τ) = 1)) ∧ (z = -1 ∨ (from1 ≤ z ∧ z < to1))) := by
  show WP 332 0 [(0, .ref 117), (1, iV from1), (2, iV to1)] [] _ _ _ _
  refine wp_al1 jF_332_0 rfl rfl (pc2 := 1) ?_
  refine wp_cV (as := []) (rest := []) (a := 117) (mx := 1) (ci := 12) jF_332_1 kd117 (by decide) rfl rfl rfl rfl rfl (by omega) (by omega) rfl (pc2 := 4) ?_
  have b1 := GI.b hg 117 2 kd117 (lo := 0) (hi := 1601) rfl
  refine wp_use (m_333 σ hg   _ _ (by omega) (by omega)) ?_
  rintro _ τ4 ⟨z7, rfl, h8, g5, f6, p2, p3⟩
  show WP 332 4 [(0, .ref 117), (1, iV from1), (2, iV to1)] [iV z7] _ _ _ _
  refine wp_is1 (lv2 := [(0, .ref 117), (1, iV from1), (2, iV to1), (3, iV z7)]) jF_332_4 rfl rfl rfl (pc2 := 5) ?_
  refine wp_il1 jF_332_5 rfl rfl (pc2 := 6) ?_
  refine wp_il1 jF_332_6 rfl rfl (pc2 := 7) ?_
  refine wp_i_lt jF_332_7 (m_rgb h8 rfl) ⟨by omega, by omega⟩ rfl (pc2 := 10) ?_ ?_
  · intro h9
    refine wp_ic jF_332_19 rfl (pc2 := 20) ?_
    refine wp_ri jF_332_20 rfl ?_
    have b10 := GI.b g5 117 2 kd117 (lo := 0) (hi := 1601) rfl
    exact ⟨(-1), rfl, ⟨by omega, by omega⟩, g5, f6, (by omega), (by omega), (by omega)⟩
  · intro h9
    refine wp_il1 jF_332_10 rfl rfl (pc2 := 11) ?_
    refine wp_il1 jF_332_11 rfl rfl (pc2 := 12) ?_
    refine wp_i_ge jF_332_12 ⟨by omega, by omega⟩ ⟨by omega, by omega⟩ rfl (pc2 := 15) ?_ ?_
    · intro h11
      refine wp_ic jF_332_19 rfl (pc2 := 20) ?_
      refine wp_ri jF_332_20 rfl ?_
      have b12 := GI.b g5 117 2 kd117 (lo := 0) (hi := 1601) rfl
      exact ⟨(-1), rfl, ⟨by omega, by omega⟩, g5, f6, (by omega), (by omega), (by omega)⟩
    · intro h11
      refine wp_il1 jF_332_15 rfl rfl (pc2 := 16) ?_
      refine wp_go jF_332_16 ?_
      refine wp_ri jF_332_20 rfl ?_
      have b13 := GI.b g5 117 2 kd117 (lo := 0) (hi := 1601) rfl
      exact ⟨z7, rfl, ⟨by omega, by omega⟩, g5, f6, (by omega), (by omega), (by omega)⟩
set_option maxHeartbeats 4000000 in
set_option maxRecDepth 20000 in
/-- M.qAsksWord -/
theorem m_334 (σ : jM) (hg : GI σ) (k : Int) (hl_k : 0 ≤ k) (hu_k : k ≤ 6)  (fr lo : Nat) (hfr : 4 ≤ fr) (hlo : 85 ≤ lo) : WP 334 0 (lv_args 0 [.ref 117, iV k]) [] fr lo σ (fun v τ => v = none ∧ GI τ ∧ FR Wask σ τ ∧ ((σ.1 117 2) ≤ (τ.1 117 2)) ∧ ((σ.1 117 5) ≠ 0 → (τ.1 117 5) = (σ.1 117 5)) ∧ ((τ.1 117 5) = 0 → ((σ.1 117 5) = 0 ∧ (σ.1 117 2) < (τ.1 117 2) ∧ (τ.1 117 2) ≤ (σ.1 117 3)))) := by
  show WP 334 0 [(0, .ref 117), (1, iV k)] [] _ _ _ _
  refine wp_il1 jF_334_0 rfl rfl (pc2 := 1) ?_
  rcases m_tsw k 0 5 with h1 | h1
  · refine wp_tswd (tgt := 106) jF_334_1 ⟨by omega, by omega⟩ h1 (by decide) ?_
    refine wp_al1 jF_334_106 rfl rfl (pc2 := 107) ?_
    refine wp_al1 jF_334_107 rfl rfl (pc2 := 108) ?_
    refine wp_gr (b := 175) jF_334_108 kd117 (by decide) (c := 275) rfl rfl rfl (pc2 := 111) ?_
    refine wp_cV (as := [.ref 175]) (rest := []) (a := 117) (mx := 2) (ci := 12) jF_334_111 kd117 (by decide) rfl rfl rfl rfl rfl (by omega) (by omega) rfl (pc2 := 114) ?_
    have b2 := GI.b hg 117 2 kd117 (lo := 0) (hi := 1601) rfl
    have b3 := GI.b hg 117 3 kd117 (lo := 0) (hi := 1600) rfl
    have b4 := GI.b hg 117 5 kd117 (lo := (-2147483648)) (hi := 2147483647) rfl
    refine wp_use (m_234 σ hg 175 5 cw175.1 cw175.2 (by decide)  _ _ (by omega) (by omega)) ?_
    rintro _ τ8 ⟨rfl, g9, f10, p5, p6, p7⟩
    show WP 334 114 [(0, .ref 117), (1, iV k)] [] _ _ _ _
    refine wp_rv jF_334_114 ?_
    have b11 := GI.b g9 117 2 kd117 (lo := 0) (hi := 1601) rfl
    have b12 := GI.b g9 117 5 kd117 (lo := (-2147483648)) (hi := 2147483647) rfl
    exact ⟨rfl, g9, f10, (by omega), (by omega), (by omega)⟩
  · have h1c : k = 0 ∨ k = 1 ∨ k = 2 ∨ k = 3 ∨ k = 4 ∨ k = 5 := by omega
    rcases h1c with hh | hh | hh | hh | hh | hh
    · refine wp_tswx (x := 0) (tgt := 40) jF_334_1 hh (by decide) ?_
      subst hh
      refine wp_al1 jF_334_40 rfl rfl (pc2 := 41) ?_
      refine wp_al1 jF_334_41 rfl rfl (pc2 := 42) ?_
      refine wp_gr (b := 169) jF_334_42 kd117 (by decide) (c := 269) rfl rfl rfl (pc2 := 45) ?_
      refine wp_cV (as := [.ref 169]) (rest := []) (a := 117) (mx := 2) (ci := 12) jF_334_45 kd117 (by decide) rfl rfl rfl rfl rfl (by omega) (by omega) rfl (pc2 := 48) ?_
      have b13 := GI.b hg 117 2 kd117 (lo := 0) (hi := 1601) rfl
      have b14 := GI.b hg 117 3 kd117 (lo := 0) (hi := 1600) rfl
      have b15 := GI.b hg 117 5 kd117 (lo := (-2147483648)) (hi := 2147483647) rfl
      refine wp_use (m_234 σ hg 169 4 cw169.1 cw169.2 (by decide)  _ _ (by omega) (by omega)) ?_
      rintro _ τ19 ⟨rfl, g20, f21, p16, p17, p18⟩
      show WP 334 48 [(0, .ref 117), (1, iV 0)] [] _ _ _ _
      refine wp_go jF_334_48 ?_
      refine wp_rv jF_334_114 ?_
      have b22 := GI.b g20 117 2 kd117 (lo := 0) (hi := 1601) rfl
      have b23 := GI.b g20 117 5 kd117 (lo := (-2147483648)) (hi := 2147483647) rfl
      exact ⟨rfl, g20, f21, (by omega), (by omega), (by omega)⟩
    · refine wp_tswx (x := 1) (tgt := 51) jF_334_1 hh (by decide) ?_
      subst hh
      refine wp_al1 jF_334_51 rfl rfl (pc2 := 52) ?_
      refine wp_al1 jF_334_52 rfl rfl (pc2 := 53) ?_
      refine wp_gr (b := 170) jF_334_53 kd117 (by decide) (c := 270) rfl rfl rfl (pc2 := 56) ?_
      refine wp_cV (as := [.ref 170]) (rest := []) (a := 117) (mx := 2) (ci := 12) jF_334_56 kd117 (by decide) rfl rfl rfl rfl rfl (by omega) (by omega) rfl (pc2 := 59) ?_
      have b24 := GI.b hg 117 2 kd117 (lo := 0) (hi := 1601) rfl
      have b25 := GI.b hg 117 3 kd117 (lo := 0) (hi := 1600) rfl
      have b26 := GI.b hg 117 5 kd117 (lo := (-2147483648)) (hi := 2147483647) rfl
      refine wp_use (m_234 σ hg 170 3 cw170.1 cw170.2 (by decide)  _ _ (by omega) (by omega)) ?_
      rintro _ τ30 ⟨rfl, g31, f32, p27, p28, p29⟩
      show WP 334 59 [(0, .ref 117), (1, iV 1)] [] _ _ _ _
      refine wp_go jF_334_59 ?_
      refine wp_rv jF_334_114 ?_
      have b33 := GI.b g31 117 2 kd117 (lo := 0) (hi := 1601) rfl
      have b34 := GI.b g31 117 5 kd117 (lo := (-2147483648)) (hi := 2147483647) rfl
      exact ⟨rfl, g31, f32, (by omega), (by omega), (by omega)⟩
    · refine wp_tswx (x := 2) (tgt := 62) jF_334_1 hh (by decide) ?_
      subst hh
      refine wp_al1 jF_334_62 rfl rfl (pc2 := 63) ?_
      refine wp_al1 jF_334_63 rfl rfl (pc2 := 64) ?_
      refine wp_gr (b := 171) jF_334_64 kd117 (by decide) (c := 271) rfl rfl rfl (pc2 := 67) ?_
      refine wp_cV (as := [.ref 171]) (rest := []) (a := 117) (mx := 2) (ci := 12) jF_334_67 kd117 (by decide) rfl rfl rfl rfl rfl (by omega) (by omega) rfl (pc2 := 70) ?_
      have b35 := GI.b hg 117 2 kd117 (lo := 0) (hi := 1601) rfl
      have b36 := GI.b hg 117 3 kd117 (lo := 0) (hi := 1600) rfl
      have b37 := GI.b hg 117 5 kd117 (lo := (-2147483648)) (hi := 2147483647) rfl
      refine wp_use (m_234 σ hg 171 4 cw171.1 cw171.2 (by decide)  _ _ (by omega) (by omega)) ?_
      rintro _ τ41 ⟨rfl, g42, f43, p38, p39, p40⟩
      show WP 334 70 [(0, .ref 117), (1, iV 2)] [] _ _ _ _
      refine wp_go jF_334_70 ?_
      refine wp_rv jF_334_114 ?_
      have b44 := GI.b g42 117 2 kd117 (lo := 0) (hi := 1601) rfl
      have b45 := GI.b g42 117 5 kd117 (lo := (-2147483648)) (hi := 2147483647) rfl
      exact ⟨rfl, g42, f43, (by omega), (by omega), (by omega)⟩
    · refine wp_tswx (x := 3) (tgt := 73) jF_334_1 hh (by decide) ?_
      subst hh
      refine wp_al1 jF_334_73 rfl rfl (pc2 := 74) ?_
      refine wp_al1 jF_334_74 rfl rfl (pc2 := 75) ?_
      refine wp_gr (b := 172) jF_334_75 kd117 (by decide) (c := 272) rfl rfl rfl (pc2 := 78) ?_
      refine wp_cV (as := [.ref 172]) (rest := []) (a := 117) (mx := 2) (ci := 12) jF_334_78 kd117 (by decide) rfl rfl rfl rfl rfl (by omega) (by omega) rfl (pc2 := 81) ?_
      have b46 := GI.b hg 117 2 kd117 (lo := 0) (hi := 1601) rfl
      have b47 := GI.b hg 117 3 kd117 (lo := 0) (hi := 1600) rfl
      have b48 := GI.b hg 117 5 kd117 (lo := (-2147483648)) (hi := 2147483647) rfl
      refine wp_use (m_234 σ hg 172 4 cw172.1 cw172.2 (by decide)  _ _ (by omega) (by omega)) ?_
      rintro _ τ52 ⟨rfl, g53, f54, p49, p50, p51⟩
      show WP 334 81 [(0, .ref 117), (1, iV 3)] [] _ _ _ _
      refine wp_go jF_334_81 ?_
      refine wp_rv jF_334_114 ?_
      have b55 := GI.b g53 117 2 kd117 (lo := 0) (hi := 1601) rfl
      have b56 := GI.b g53 117 5 kd117 (lo := (-2147483648)) (hi := 2147483647) rfl
      exact ⟨rfl, g53, f54, (by omega), (by omega), (by omega)⟩
    · refine wp_tswx (x := 4) (tgt := 84) jF_334_1 hh (by decide) ?_
      subst hh
      refine wp_al1 jF_334_84 rfl rfl (pc2 := 85) ?_
      refine wp_al1 jF_334_85 rfl rfl (pc2 := 86) ?_
      refine wp_gr (b := 173) jF_334_86 kd117 (by decide) (c := 273) rfl rfl rfl (pc2 := 89) ?_
      refine wp_cV (as := [.ref 173]) (rest := []) (a := 117) (mx := 2) (ci := 12) jF_334_89 kd117 (by decide) rfl rfl rfl rfl rfl (by omega) (by omega) rfl (pc2 := 92) ?_
      have b57 := GI.b hg 117 2 kd117 (lo := 0) (hi := 1601) rfl
      have b58 := GI.b hg 117 3 kd117 (lo := 0) (hi := 1600) rfl
      have b59 := GI.b hg 117 5 kd117 (lo := (-2147483648)) (hi := 2147483647) rfl
      refine wp_use (m_234 σ hg 173 3 cw173.1 cw173.2 (by decide)  _ _ (by omega) (by omega)) ?_
      rintro _ τ63 ⟨rfl, g64, f65, p60, p61, p62⟩
      show WP 334 92 [(0, .ref 117), (1, iV 4)] [] _ _ _ _
      refine wp_go jF_334_92 ?_
      refine wp_rv jF_334_114 ?_
      have b66 := GI.b g64 117 2 kd117 (lo := 0) (hi := 1601) rfl
      have b67 := GI.b g64 117 5 kd117 (lo := (-2147483648)) (hi := 2147483647) rfl
      exact ⟨rfl, g64, f65, (by omega), (by omega), (by omega)⟩
    · refine wp_tswx (x := 5) (tgt := 95) jF_334_1 hh (by decide) ?_
      subst hh
      refine wp_al1 jF_334_95 rfl rfl (pc2 := 96) ?_
      refine wp_al1 jF_334_96 rfl rfl (pc2 := 97) ?_
      refine wp_gr (b := 174) jF_334_97 kd117 (by decide) (c := 274) rfl rfl rfl (pc2 := 100) ?_
      refine wp_cV (as := [.ref 174]) (rest := []) (a := 117) (mx := 2) (ci := 12) jF_334_100 kd117 (by decide) rfl rfl rfl rfl rfl (by omega) (by omega) rfl (pc2 := 103) ?_
      have b68 := GI.b hg 117 2 kd117 (lo := 0) (hi := 1601) rfl
      have b69 := GI.b hg 117 3 kd117 (lo := 0) (hi := 1600) rfl
      have b70 := GI.b hg 117 5 kd117 (lo := (-2147483648)) (hi := 2147483647) rfl
      refine wp_use (m_234 σ hg 174 5 cw174.1 cw174.2 (by decide)  _ _ (by omega) (by omega)) ?_
      rintro _ τ74 ⟨rfl, g75, f76, p71, p72, p73⟩
      show WP 334 103 [(0, .ref 117), (1, iV 5)] [] _ _ _ _
      refine wp_go jF_334_103 ?_
      refine wp_rv jF_334_114 ?_
      have b77 := GI.b g75 117 2 kd117 (lo := 0) (hi := 1601) rfl
      have b78 := GI.b g75 117 5 kd117 (lo := (-2147483648)) (hi := 2147483647) rfl
      exact ⟨rfl, g75, f76, (by omega), (by omega), (by omega)⟩
