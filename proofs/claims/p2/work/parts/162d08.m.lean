set_option maxHeartbeats 4000000 in
set_option maxRecDepth 20000 in
/-- Tongue.isFull -/
theorem m_43_r45 (σ : jM) (hg : GI σ) (kind : Int) (hl_kind : 0 ≤ kind) (hu_kind : kind ≤ 8)  (fr lo : Nat) (hfr : 1 ≤ fr) (hlo : 20 ≤ lo) : WP 43 0 (lv_args 0 [.ref 45, iV kind]) [] fr lo σ (fun v τ => ∃ z : Int, v = some (iV z) ∧ (0 ≤ z ∧ z ≤ 1) ∧ σ = τ ∧ (z = 0 → kind ≤ 2 → (σ.1 47 (Int.toNat kind)) ≤ 3)) := by
  show WP 43 0 [(0, .ref 45), (1, iV kind)] [] _ _ _ _
  refine wp_il1 jF_43_0 rfl rfl (pc2 := 1) ?_
  rcases m_tsw kind 0 8 with h1 | h1
  · refine wp_tswd (tgt := 121) jF_43_1 ⟨by omega, by omega⟩ h1 (by decide) ?_
    refine wp_ic jF_43_121 rfl (pc2 := 122) ?_
    refine wp_ri jF_43_122 rfl ?_
    exact ⟨0, rfl, ⟨by omega, by omega⟩, rfl, (by omega)⟩
  · have h1c : kind = 0 ∨ kind = 1 ∨ kind = 2 ∨ kind = 3 ∨ kind = 4 ∨ kind = 5 ∨ kind = 6 ∨ kind = 7 ∨ kind = 8 := by omega
    rcases h1c with hh | hh | hh | hh | hh | hh | hh | hh | hh
    · refine wp_tswx (x := 0) (tgt := 52) jF_43_1 hh (by decide) ?_
      subst hh
      refine wp_al1 jF_43_52 rfl rfl (pc2 := 53) ?_
      refine wp_gr (b := 47) jF_43_53 kd45 (by decide) (c := 5) rfl rfl rfl (pc2 := 56) ?_
      refine wp_il1 jF_43_56 rfl rfl (pc2 := 57) ?_
      have b2 := GI.b hg 47 0 kd47 (lo := 0) (hi := 4) rfl
      refine wp_iald (n := 3) (e := (σ.1 47 0)) jF_43_57 kd47 (by decide) rfl rfl (by omega) (by omega) rfl rfl (pc2 := 58) ?_
      refine wp_ic jF_43_58 rfl (pc2 := 59) ?_
      refine wp_i_lt jF_43_59 (m_rgb b2 rfl) (m_rgl rfl) rfl (pc2 := 62) ?_ ?_
      · intro h3
        refine wp_ic jF_43_66 rfl (pc2 := 67) ?_
        refine wp_ri jF_43_67 rfl ?_
        exact ⟨0, rfl, ⟨by omega, by omega⟩, rfl, (fun hz _ => by have e : (σ.1 47 0) ≤ 3 := by omega
            exact e)⟩
      · intro h3
        refine wp_ic jF_43_62 rfl (pc2 := 63) ?_
        refine wp_go jF_43_63 ?_
        refine wp_ri jF_43_67 rfl ?_
        exact ⟨1, rfl, ⟨by omega, by omega⟩, rfl, (fun hz _ => by have e : (σ.1 47 0) ≤ 3 := by omega
            exact e)⟩
    · refine wp_tswx (x := 1) (tgt := 52) jF_43_1 hh (by decide) ?_
      subst hh
      refine wp_al1 jF_43_52 rfl rfl (pc2 := 53) ?_
      refine wp_gr (b := 47) jF_43_53 kd45 (by decide) (c := 5) rfl rfl rfl (pc2 := 56) ?_
      refine wp_il1 jF_43_56 rfl rfl (pc2 := 57) ?_
      have b4 := GI.b hg 47 1 kd47 (lo := 0) (hi := 4) rfl
      refine wp_iald (n := 3) (e := (σ.1 47 1)) jF_43_57 kd47 (by decide) rfl rfl (by omega) (by omega) rfl rfl (pc2 := 58) ?_
      refine wp_ic jF_43_58 rfl (pc2 := 59) ?_
      refine wp_i_lt jF_43_59 (m_rgb b4 rfl) (m_rgl rfl) rfl (pc2 := 62) ?_ ?_
      · intro h5
        refine wp_ic jF_43_66 rfl (pc2 := 67) ?_
        refine wp_ri jF_43_67 rfl ?_
        exact ⟨0, rfl, ⟨by omega, by omega⟩, rfl, (fun hz _ => by have e : (σ.1 47 1) ≤ 3 := by omega
            exact e)⟩
      · intro h5
        refine wp_ic jF_43_62 rfl (pc2 := 63) ?_
        refine wp_go jF_43_63 ?_
        refine wp_ri jF_43_67 rfl ?_
        exact ⟨1, rfl, ⟨by omega, by omega⟩, rfl, (fun hz _ => by have e : (σ.1 47 1) ≤ 3 := by omega
            exact e)⟩
    · refine wp_tswx (x := 2) (tgt := 52) jF_43_1 hh (by decide) ?_
      subst hh
      refine wp_al1 jF_43_52 rfl rfl (pc2 := 53) ?_
      refine wp_gr (b := 47) jF_43_53 kd45 (by decide) (c := 5) rfl rfl rfl (pc2 := 56) ?_
      refine wp_il1 jF_43_56 rfl rfl (pc2 := 57) ?_
      have b6 := GI.b hg 47 2 kd47 (lo := 0) (hi := 4) rfl
      refine wp_iald (n := 3) (e := (σ.1 47 2)) jF_43_57 kd47 (by decide) rfl rfl (by omega) (by omega) rfl rfl (pc2 := 58) ?_
      refine wp_ic jF_43_58 rfl (pc2 := 59) ?_
      refine wp_i_lt jF_43_59 (m_rgb b6 rfl) (m_rgl rfl) rfl (pc2 := 62) ?_ ?_
      · intro h7
        refine wp_ic jF_43_66 rfl (pc2 := 67) ?_
        refine wp_ri jF_43_67 rfl ?_
        exact ⟨0, rfl, ⟨by omega, by omega⟩, rfl, (fun hz _ => by have e : (σ.1 47 2) ≤ 3 := by omega
            exact e)⟩
      · intro h7
        refine wp_ic jF_43_62 rfl (pc2 := 63) ?_
        refine wp_go jF_43_63 ?_
        refine wp_ri jF_43_67 rfl ?_
        exact ⟨1, rfl, ⟨by omega, by omega⟩, rfl, (fun hz _ => by have e : (σ.1 47 2) ≤ 3 := by omega
            exact e)⟩
    · refine wp_tswx (x := 3) (tgt := 68) jF_43_1 hh (by decide) ?_
      subst hh
      refine wp_al1 jF_43_68 rfl rfl (pc2 := 69) ?_
      have b8 := GI.b hg 45 9 kd45 (lo := 0) (hi := 6) rfl
      refine wp_gi jF_43_69 kd45 (by decide) rfl rfl rfl (pc2 := 72) ?_
      refine wp_bi jF_43_72 (by decide) rfl (pc2 := 74) ?_
      refine wp_i_lt jF_43_74 (m_rgb b8 rfl) (m_rgl rfl) rfl (pc2 := 77) ?_ ?_
      · intro h9
        refine wp_ic jF_43_81 rfl (pc2 := 82) ?_
        refine wp_ri jF_43_82 rfl ?_
        exact ⟨0, rfl, ⟨by omega, by omega⟩, rfl, (by omega)⟩
      · intro h9
        refine wp_ic jF_43_77 rfl (pc2 := 78) ?_
        refine wp_go jF_43_78 ?_
        refine wp_ri jF_43_82 rfl ?_
        exact ⟨1, rfl, ⟨by omega, by omega⟩, rfl, (by omega)⟩
    · refine wp_tswx (x := 4) (tgt := 121) jF_43_1 hh (by decide) ?_
      subst hh
      refine wp_ic jF_43_121 rfl (pc2 := 122) ?_
      refine wp_ri jF_43_122 rfl ?_
      exact ⟨0, rfl, ⟨by omega, by omega⟩, rfl, (by omega)⟩
    · refine wp_tswx (x := 5) (tgt := 83) jF_43_1 hh (by decide) ?_
      subst hh
      refine wp_al1 jF_43_83 rfl rfl (pc2 := 84) ?_
      have b10 := GI.b hg 45 11 kd45 (lo := 0) (hi := 5) rfl
      refine wp_gi jF_43_84 kd45 (by decide) rfl rfl rfl (pc2 := 87) ?_
      refine wp_ic jF_43_87 rfl (pc2 := 88) ?_
      refine wp_i_lt jF_43_88 (m_rgb b10 rfl) (m_rgl rfl) rfl (pc2 := 91) ?_ ?_
      · intro h11
        refine wp_ic jF_43_95 rfl (pc2 := 96) ?_
        refine wp_ri jF_43_96 rfl ?_
        exact ⟨0, rfl, ⟨by omega, by omega⟩, rfl, (by omega)⟩
      · intro h11
        refine wp_ic jF_43_91 rfl (pc2 := 92) ?_
        refine wp_go jF_43_92 ?_
        refine wp_ri jF_43_96 rfl ?_
        exact ⟨1, rfl, ⟨by omega, by omega⟩, rfl, (by omega)⟩
    · refine wp_tswx (x := 6) (tgt := 97) jF_43_1 hh (by decide) ?_
      subst hh
      refine wp_al1 jF_43_97 rfl rfl (pc2 := 98) ?_
      refine wp_gr (b := 52) jF_43_98 kd45 (by decide) (c := 10) rfl rfl rfl (pc2 := 101) ?_
      refine wp_cV (as := []) (rest := []) (a := 52) (mx := 1) (ci := 7) jF_43_101 kd52 (by decide) rfl rfl rfl rfl rfl (by omega) (by omega) rfl (pc2 := 104) ?_
      have b12 := GI.b hg 52 5 kd52 (lo := 0) (hi := 16) rfl
      refine wp_use (m_44_r52 σ hg   _ _ (by omega) (by omega)) ?_
      rintro _ _ ⟨z16, rfl, h17, rfl, p13⟩
      show WP 43 104 [(0, .ref 45), (1, iV 6)] [iV z16] _ _ _ _
      refine wp_ri jF_43_104 (m_fitb (by omega) (by omega)) ?_
      exact ⟨z16, rfl, ⟨by omega, by omega⟩, rfl, (by omega)⟩
    · refine wp_tswx (x := 7) (tgt := 105) jF_43_1 hh (by decide) ?_
      subst hh
      refine wp_al1 jF_43_105 rfl rfl (pc2 := 106) ?_
      refine wp_gr (b := 58) jF_43_106 kd45 (by decide) (c := 16) rfl rfl rfl (pc2 := 109) ?_
      refine wp_cV (as := []) (rest := []) (a := 58) (mx := 1) (ci := 7) jF_43_109 kd58 (by decide) rfl rfl rfl rfl rfl (by omega) (by omega) rfl (pc2 := 112) ?_
      have b18 := GI.b hg 58 5 kd58 (lo := 0) (hi := 16) rfl
      refine wp_use (m_44_r58 σ hg   _ _ (by omega) (by omega)) ?_
      rintro _ _ ⟨z22, rfl, h23, rfl, p19⟩
      show WP 43 112 [(0, .ref 45), (1, iV 7)] [iV z22] _ _ _ _
      refine wp_ri jF_43_112 (m_fitb (by omega) (by omega)) ?_
      exact ⟨z22, rfl, ⟨by omega, by omega⟩, rfl, (by omega)⟩
    · refine wp_tswx (x := 8) (tgt := 113) jF_43_1 hh (by decide) ?_
      subst hh
      refine wp_al1 jF_43_113 rfl rfl (pc2 := 114) ?_
      refine wp_gr (b := 64) jF_43_114 kd45 (by decide) (c := 22) rfl rfl rfl (pc2 := 117) ?_
      refine wp_cV (as := []) (rest := []) (a := 64) (mx := 1) (ci := 7) jF_43_117 kd64 (by decide) rfl rfl rfl rfl rfl (by omega) (by omega) rfl (pc2 := 120) ?_
      have b24 := GI.b hg 64 5 kd64 (lo := 0) (hi := 16) rfl
      refine wp_use (m_44_r64 σ hg   _ _ (by omega) (by omega)) ?_
      rintro _ _ ⟨z28, rfl, h29, rfl, p25⟩
      show WP 43 120 [(0, .ref 45), (1, iV 8)] [iV z28] _ _ _ _
      refine wp_ri jF_43_120 (m_fitb (by omega) (by omega)) ?_
      exact ⟨z28, rfl, ⟨by omega, by omega⟩, rfl, (by omega)⟩
set_option maxHeartbeats 4000000 in
set_option maxRecDepth 20000 in
/-- Tongue.find -/
theorem m_50_r45 (σ : jM) (hg : GI σ) (code : Int) (hl_code : (-2147483648) ≤ code) (hu_code : code ≤ 2147483647)  (fr lo : Nat) (hfr : 0 ≤ fr) (hlo : 0 ≤ lo) : WP 50 0 (lv_args 0 [.ref 45, iV code]) [] fr lo σ (fun v τ => ∃ z : Int, v = some (iV z) ∧ ((-1) ≤ z ∧ z ≤ 24) ∧ σ = τ) := by
  show WP 50 0 [(0, .ref 45), (1, iV code)] [] _ _ _ _
  refine wp_ic jF_50_0 rfl (pc2 := 1) ?_
  refine wp_is1 (lv2 := [(0, .ref 45), (1, iV code), (2, iV 0)]) jF_50_1 rfl rfl rfl (pc2 := 2) ?_
  refine wp_loop (α := Int) (fun a => [(0, .ref 45), (1, iV code), (2, iV (a))]) (fun a τ => (0 ≤ a ∧ a ≤ 25) ∧ σ = τ) (fun a τ => Int.toNat (25 - (a))) (0) σ ?_ ?_
  · skip
    exact ⟨⟨by omega, by omega⟩, rfl⟩
  · rintro x1 _ ⟨h2, rfl⟩ ih6
    show WP 50 2 [(0, .ref 45), (1, iV code), (2, iV x1)] [] _ _ _ _
    show WP 50 2 [(0, .ref 45), (1, iV code), (2, iV x1)] [] _ _ _ _
    refine wp_il1 jF_50_2 rfl rfl (pc2 := 3) ?_
    refine wp_al1 jF_50_3 rfl rfl (pc2 := 4) ?_
    refine wp_gr (b := 46) jF_50_4 kd45 (by decide) (c := 4) rfl rfl rfl (pc2 := 7) ?_
    refine wp_len (n := 25) (t := 0) jF_50_7 kd46 (by decide) rfl rfl (pc2 := 8) ?_
    refine wp_i_ge jF_50_8 (m_rgb h2 rfl) (m_rgl rfl) rfl (pc2 := 11) ?_ ?_
    · intro h7
      refine wp_ic jF_50_29 rfl (pc2 := 30) ?_
      refine wp_ri jF_50_30 rfl ?_
      exact ⟨(-1), rfl, ⟨by omega, by omega⟩, rfl⟩
    · intro h7
      refine wp_al1 jF_50_11 rfl rfl (pc2 := 12) ?_
      refine wp_gr (b := 46) jF_50_12 kd45 (by decide) (c := 4) rfl rfl rfl (pc2 := 15) ?_
      refine wp_il1 jF_50_15 rfl rfl (pc2 := 16) ?_
      have b8 := GI.b hg 46 x1.toNat kd46 (lo := (-2147483648)) (hi := 2147483647) rfl
      refine wp_iald (n := 25) (e := (σ.1 46 x1.toNat)) jF_50_16 kd46 (by decide) rfl rfl (by omega) (by omega) rfl rfl (pc2 := 17) ?_
      refine wp_il1 jF_50_17 rfl rfl (pc2 := 18) ?_
      refine wp_i_ne jF_50_18 (m_rgb b8 rfl) ⟨by omega, by omega⟩ rfl (pc2 := 21) ?_ ?_
      · intro h9
        refine wp_inc (lv2 := [(0, .ref 45), (1, iV code), (2, iV (x1 + 1))]) jF_50_23 rfl rfl rfl rfl (pc2 := 26) ?_
        refine wp_go jF_50_26 ?_
        exact ih6 ((x1 + 1)) σ ⟨⟨by omega, by omega⟩, rfl⟩ (by show Int.toNat (25 - (x1 + 1)) < Int.toNat (25 - x1); omega)
      · intro h9
        refine wp_il1 jF_50_21 rfl rfl (pc2 := 22) ?_
        refine wp_ri jF_50_22 rfl ?_
        exact ⟨x1, rfl, ⟨by omega, by omega⟩, rfl⟩
set_option maxHeartbeats 4000000 in
set_option maxRecDepth 20000 in
/-- Tongue.isParty -/
theorem m_51_r45 (σ : jM) (hg : GI σ) (fd : Int) (hl_fd : (-2147483648) ≤ fd) (hu_fd : fd ≤ 2147483647)  (fr lo : Nat) (hfr : 0 ≤ fr) (hlo : 0 ≤ lo) : WP 51 0 (lv_args 0 [.ref 45, iV fd]) [] fr lo σ (fun v τ => ∃ z : Int, v = some (iV z) ∧ (0 ≤ z ∧ z ≤ 1) ∧ σ = τ) := by
  show WP 51 0 [(0, .ref 45), (1, iV fd)] [] _ _ _ _
  refine wp_il1 jF_51_0 rfl rfl (pc2 := 1) ?_
  refine wp_bi jF_51_1 (by decide) rfl (pc2 := 3) ?_
  refine wp_i_lt jF_51_3 ⟨by omega, by omega⟩ (m_rgl rfl) rfl (pc2 := 6) ?_ ?_
  · intro h1
    refine wp_ic jF_51_21 rfl (pc2 := 22) ?_
    refine wp_ri jF_51_22 rfl ?_
    exact ⟨0, rfl, ⟨by omega, by omega⟩, rfl⟩
  · intro h1
    refine wp_il1 jF_51_6 rfl rfl (pc2 := 7) ?_
    refine wp_bi jF_51_7 (by decide) rfl (pc2 := 9) ?_
    refine wp_al1 jF_51_9 rfl rfl (pc2 := 10) ?_
    have b2 := GI.b hg 45 11 kd45 (lo := 0) (hi := 5) rfl
    refine wp_gi jF_51_10 kd45 (by decide) rfl rfl rfl (pc2 := 13) ?_
    refine wp_add jF_51_13 rfl (pc2 := 14) ?_
    refine wp_i_ge jF_51_14 ⟨by omega, by omega⟩ ⟨by omega, by omega⟩ rfl (pc2 := 17) ?_ ?_
    · intro h3
      refine wp_ic jF_51_21 rfl (pc2 := 22) ?_
      refine wp_ri jF_51_22 rfl ?_
      exact ⟨0, rfl, ⟨by omega, by omega⟩, rfl⟩
    · intro h3
      refine wp_ic jF_51_17 rfl (pc2 := 18) ?_
      refine wp_go jF_51_18 ?_
      refine wp_ri jF_51_22 rfl ?_
      exact ⟨1, rfl, ⟨by omega, by omega⟩, rfl⟩
set_option maxHeartbeats 4000000 in
set_option maxRecDepth 20000 in
/-- Tongue.addWord -/
theorem m_67_r45 (σ : jM) (hg : GI σ) (sort : Int) (hl_sort : 0 ≤ sort) (hu_sort : sort ≤ 8) (code : Int) (hl_code : (-2147483648) ≤ code) (hu_code : code ≤ 2147483647)  (fr lo : Nat) (hfr : 2 ≤ fr) (hlo : 41 ≤ lo) : WP 67 0 (lv_args 0 [.ref 45, iV sort, iV code]) [] fr lo σ (fun v τ => v = none ∧ GI τ ∧ FR WG45 σ τ ∧ ((τ.1 58 5) = (σ.1 58 5)) ∧ ((τ.1 64 5) = (σ.1 64 5))) := by
  show WP 67 0 [(0, .ref 45), (1, iV sort), (2, iV code)] [] _ _ _ _
  refine wp_il1 jF_67_0 rfl rfl (pc2 := 1) ?_
  refine wp_z_lt jF_67_1 ⟨by omega, by omega⟩ rfl (pc2 := 4) ?_ ?_
  · intro h1; exfalso; omega
  · intro h1
    refine wp_il1 jF_67_4 rfl rfl (pc2 := 5) ?_
    refine wp_ic jF_67_5 rfl (pc2 := 6) ?_
    refine wp_i_ge jF_67_6 ⟨by omega, by omega⟩ (m_rgl rfl) rfl (pc2 := 9) ?_ ?_
    · intro h2
      refine wp_rv jF_67_43 ?_
      have b3 := GI.b hg 58 5 kd58 (lo := 0) (hi := 16) rfl
      have b4 := GI.b hg 64 5 kd64 (lo := 0) (hi := 16) rfl
      exact ⟨rfl, hg, FR.rf, (by omega), (by omega)⟩
    · intro h2
      refine wp_al1 jF_67_9 rfl rfl (pc2 := 10) ?_
      refine wp_il1 jF_67_10 rfl rfl (pc2 := 11) ?_
      refine wp_cV (as := [iV sort]) (rest := []) (a := 45) (mx := 2) (ci := 8) jF_67_11 kd45 (by decide) rfl rfl rfl rfl rfl (by omega) (by omega) rfl (pc2 := 14) ?_
      refine wp_use (m_43_r45 σ hg sort (by omega) (by omega)  _ _ (by omega) (by omega)) ?_
      rintro _ _ ⟨z8, rfl, h9, rfl, p5⟩
      show WP 67 14 [(0, .ref 45), (1, iV sort), (2, iV code)] [iV z8] _ _ _ _
      refine wp_z_ne jF_67_14 (m_rgb h9 rfl) rfl (pc2 := 17) ?_ ?_
      · intro h10
        clear p5
        refine wp_rv jF_67_43 ?_
        have b11 := GI.b hg 58 5 kd58 (lo := 0) (hi := 16) rfl
        have b12 := GI.b hg 64 5 kd64 (lo := 0) (hi := 16) rfl
        exact ⟨rfl, hg, FR.rf, (by omega), (by omega)⟩
      · intro h10
        replace p5 := p5 (by omega)
        refine wp_al1 jF_67_17 rfl rfl (pc2 := 18) ?_
        refine wp_gr (b := 46) jF_67_18 kd45 (by decide) (c := 4) rfl rfl rfl (pc2 := 21) ?_
        refine wp_il1 jF_67_21 rfl rfl (pc2 := 22) ?_
        refine wp_ic jF_67_22 rfl (pc2 := 23) ?_
        refine wp_mul jF_67_23 rfl (pc2 := 24) ?_
        refine wp_al1 jF_67_24 rfl rfl (pc2 := 25) ?_
        refine wp_gr (b := 47) jF_67_25 kd45 (by decide) (c := 5) rfl rfl rfl (pc2 := 28) ?_
        refine wp_il1 jF_67_28 rfl rfl (pc2 := 29) ?_
        have b13 := GI.b hg 47 sort.toNat kd47 (lo := 0) (hi := 4) rfl
        refine wp_iald (n := 3) (e := (σ.1 47 sort.toNat)) jF_67_29 kd47 (by decide) rfl rfl (by omega) (by omega) rfl rfl (pc2 := 30) ?_
        refine wp_add jF_67_30 rfl (pc2 := 31) ?_
        refine wp_il1 jF_67_31 rfl rfl (pc2 := 32) ?_
        refine wp_iast (n := 25) jF_67_32 kd46 (by decide) rfl rfl (by omega) (by omega) rfl (pc2 := 33) hg (lo := (-2147483648)) (hi := 2147483647) rfl (by omega) (by omega) ?_
        intro τ14 g15 f16 e17
        refine wp_al1 jF_67_33 rfl rfl (pc2 := 34) ?_
        refine wp_gr (b := 47) jF_67_34 kd45 (by decide) (c := 5) rfl rfl rfl (pc2 := 37) ?_
        refine wp_il1 jF_67_37 rfl rfl (pc2 := 38) ?_
        refine wp_du2 jF_67_38 rfl rfl (pc2 := 39) ?_
        refine wp_iald (n := 3) (e := (σ.1 47 sort.toNat)) jF_67_39 kd47 (by decide) rfl rfl (by omega) (by omega) (FRw.na f16 (by decide)) rfl (pc2 := 40) ?_
        refine wp_ic jF_67_40 rfl (pc2 := 41) ?_
        refine wp_add jF_67_41 rfl (pc2 := 42) ?_
        refine wp_iast (n := 3) jF_67_42 kd47 (by decide) rfl rfl (by omega) (by omega) rfl (pc2 := 43) g15 (lo := 0) (hi := 4) rfl (by omega) (by omega) ?_
        intro τ18 g19 f20 e21
        refine wp_rv jF_67_43 ?_
        have b22 := GI.b hg 58 5 kd58 (lo := 0) (hi := 16) rfl
        have q23 : (τ18.1 58 5) = (σ.1 58 5) := ((FRw.na f20 (by decide)).trans (FRw.na f16 (by decide)))
        have b24 := GI.b hg 64 5 kd64 (lo := 0) (hi := 16) rfl
        have q25 : (τ18.1 64 5) = (σ.1 64 5) := ((FRw.na f20 (by decide)).trans (FRw.na f16 (by decide)))
        exact ⟨rfl, g19, (FR.w (FR.w FR.rf f16 rfl) f20 rfl), (by omega), (by omega)⟩
set_option maxHeartbeats 4000000 in
set_option maxRecDepth 20000 in
/-- Tongue.addLike -/
theorem m_52_r45 (σ : jM) (hg : GI σ) (code : Int) (hl_code : (-2147483648) ≤ code) (hu_code : code ≤ 2147483647) (mg : Int) (hl_mg : (-2147483648) ≤ mg) (hu_mg : mg ≤ 2147483647)  (fr lo : Nat) (hfr : 0 ≤ fr) (hlo : 0 ≤ lo) : WP 52 0 (lv_args 0 [.ref 45, iV code, iV mg]) [] fr lo σ (fun v τ => v = none ∧ GI τ ∧ FR WG45 σ τ ∧ ((τ.1 58 5) = (σ.1 58 5)) ∧ ((τ.1 64 5) = (σ.1 64 5))) := by
  show WP 52 0 [(0, .ref 45), (1, iV code), (2, iV mg)] [] _ _ _ _
  refine wp_al1 jF_52_0 rfl rfl (pc2 := 1) ?_
  have b1 := GI.b hg 45 9 kd45 (lo := 0) (hi := 6) rfl
  refine wp_gi jF_52_1 kd45 (by decide) rfl rfl rfl (pc2 := 4) ?_
  refine wp_bi jF_52_4 (by decide) rfl (pc2 := 6) ?_
  refine wp_i_ge jF_52_6 (m_rgb b1 rfl) (m_rgl rfl) rfl (pc2 := 9) ?_ ?_
  · intro h2
    refine wp_rv jF_52_42 ?_
    have b3 := GI.b hg 58 5 kd58 (lo := 0) (hi := 16) rfl
    have b4 := GI.b hg 64 5 kd64 (lo := 0) (hi := 16) rfl
    exact ⟨rfl, hg, FR.rf, (by omega), (by omega)⟩
  · intro h2
    refine wp_al1 jF_52_9 rfl rfl (pc2 := 10) ?_
    refine wp_gr (b := 46) jF_52_10 kd45 (by decide) (c := 4) rfl rfl rfl (pc2 := 13) ?_
    refine wp_bi jF_52_13 (by decide) rfl (pc2 := 15) ?_
    refine wp_al1 jF_52_15 rfl rfl (pc2 := 16) ?_
    refine wp_gi jF_52_16 kd45 (by decide) rfl rfl rfl (pc2 := 19) ?_
    refine wp_add jF_52_19 rfl (pc2 := 20) ?_
    refine wp_il1 jF_52_20 rfl rfl (pc2 := 21) ?_
    refine wp_iast (n := 25) jF_52_21 kd46 (by decide) rfl rfl (by omega) (by omega) rfl (pc2 := 22) hg (lo := (-2147483648)) (hi := 2147483647) rfl (by omega) (by omega) ?_
    intro τ5 g6 f7 e8
    refine wp_al1 jF_52_22 rfl rfl (pc2 := 23) ?_
    refine wp_gr (b := 48) jF_52_23 kd45 (by decide) (c := 6) rfl rfl rfl (pc2 := 26) ?_
    refine wp_al1 jF_52_26 rfl rfl (pc2 := 27) ?_
    refine wp_gi jF_52_27 kd45 (by decide) rfl (FRw.na f7 (by decide)) rfl (pc2 := 30) ?_
    refine wp_il1 jF_52_30 rfl rfl (pc2 := 31) ?_
    refine wp_iast (n := 6) jF_52_31 kd48 (by decide) rfl rfl (by omega) (by omega) rfl (pc2 := 32) g6 (lo := (-2147483648)) (hi := 2147483647) rfl (by omega) (by omega) ?_
    intro τ9 g10 f11 e12
    refine wp_al1 jF_52_32 rfl rfl (pc2 := 33) ?_
    refine wp_dup jF_52_33 rfl rfl (pc2 := 34) ?_
    refine wp_gi jF_52_34 kd45 (by decide) rfl ((FRw.na f11 (by decide)).trans (FRw.na f7 (by decide))) rfl (pc2 := 37) ?_
    refine wp_ic jF_52_37 rfl (pc2 := 38) ?_
    refine wp_add jF_52_38 rfl (pc2 := 39) ?_
    refine wp_pi jF_52_39 kd45 (by decide) rfl rfl rfl (pc2 := 42) g10 (lo := 0) (hi := 6) rfl (by omega) (by omega) ?_
    intro τ13 g14 f15 e16
    refine wp_rv jF_52_42 ?_
    have b17 := GI.b hg 58 5 kd58 (lo := 0) (hi := 16) rfl
    have q18 : (τ13.1 58 5) = (σ.1 58 5) := ((FRw.na f15 (by decide)).trans ((FRw.na f11 (by decide)).trans (FRw.na f7 (by decide))))
    have b19 := GI.b hg 64 5 kd64 (lo := 0) (hi := 16) rfl
    have q20 : (τ13.1 64 5) = (σ.1 64 5) := ((FRw.na f15 (by decide)).trans ((FRw.na f11 (by decide)).trans (FRw.na f7 (by decide))))
    exact ⟨rfl, g14, (FR.w (FR.w (FR.w FR.rf f7 rfl) f11 rfl) f15 rfl), (by omega), (by omega)⟩
set_option maxHeartbeats 4000000 in
set_option maxRecDepth 20000 in
/-- Tongue.addParty -/
theorem m_57_r45 (σ : jM) (hg : GI σ) (code : Int) (hl_code : (-2147483648) ≤ code) (hu_code : code ≤ 2147483647) (vt : Int) (hl_vt : (-2147483648) ≤ vt) (hu_vt : vt ≤ 2147483647)  (fr lo : Nat) (hfr : 0 ≤ fr) (hlo : 0 ≤ lo) : WP 57 0 (lv_args 0 [.ref 45, iV code, iV vt]) [] fr lo σ (fun v τ => v = none ∧ GI τ ∧ FR WG45 σ τ ∧ ((τ.1 58 5) = (σ.1 58 5)) ∧ ((τ.1 64 5) = (σ.1 64 5))) := by
  show WP 57 0 [(0, .ref 45), (1, iV code), (2, iV vt)] [] _ _ _ _
  refine wp_al1 jF_57_0 rfl rfl (pc2 := 1) ?_
  have b1 := GI.b hg 45 11 kd45 (lo := 0) (hi := 5) rfl
  refine wp_gi jF_57_1 kd45 (by decide) rfl rfl rfl (pc2 := 4) ?_
  refine wp_ic jF_57_4 rfl (pc2 := 5) ?_
  refine wp_i_ge jF_57_5 (m_rgb b1 rfl) (m_rgl rfl) rfl (pc2 := 8) ?_ ?_
  · intro h2
    refine wp_rv jF_57_41 ?_
    have b3 := GI.b hg 58 5 kd58 (lo := 0) (hi := 16) rfl
    have b4 := GI.b hg 64 5 kd64 (lo := 0) (hi := 16) rfl
    exact ⟨rfl, hg, FR.rf, (by omega), (by omega)⟩
  · intro h2
    refine wp_al1 jF_57_8 rfl rfl (pc2 := 9) ?_
    refine wp_gr (b := 46) jF_57_9 kd45 (by decide) (c := 4) rfl rfl rfl (pc2 := 12) ?_
    refine wp_bi jF_57_12 (by decide) rfl (pc2 := 14) ?_
    refine wp_al1 jF_57_14 rfl rfl (pc2 := 15) ?_
    refine wp_gi jF_57_15 kd45 (by decide) rfl rfl rfl (pc2 := 18) ?_
    refine wp_add jF_57_18 rfl (pc2 := 19) ?_
    refine wp_il1 jF_57_19 rfl rfl (pc2 := 20) ?_
    refine wp_iast (n := 25) jF_57_20 kd46 (by decide) rfl rfl (by omega) (by omega) rfl (pc2 := 21) hg (lo := (-2147483648)) (hi := 2147483647) rfl (by omega) (by omega) ?_
    intro τ5 g6 f7 e8
    refine wp_al1 jF_57_21 rfl rfl (pc2 := 22) ?_
    refine wp_gr (b := 49) jF_57_22 kd45 (by decide) (c := 7) rfl rfl rfl (pc2 := 25) ?_
    refine wp_al1 jF_57_25 rfl rfl (pc2 := 26) ?_
    refine wp_gi jF_57_26 kd45 (by decide) rfl (FRw.na f7 (by decide)) rfl (pc2 := 29) ?_
    refine wp_il1 jF_57_29 rfl rfl (pc2 := 30) ?_
    refine wp_iast (n := 5) jF_57_30 kd49 (by decide) rfl rfl (by omega) (by omega) rfl (pc2 := 31) g6 (lo := (-2147483648)) (hi := 2147483647) rfl (by omega) (by omega) ?_
    intro τ9 g10 f11 e12
    refine wp_al1 jF_57_31 rfl rfl (pc2 := 32) ?_
    refine wp_dup jF_57_32 rfl rfl (pc2 := 33) ?_
    refine wp_gi jF_57_33 kd45 (by decide) rfl ((FRw.na f11 (by decide)).trans (FRw.na f7 (by decide))) rfl (pc2 := 36) ?_
    refine wp_ic jF_57_36 rfl (pc2 := 37) ?_
    refine wp_add jF_57_37 rfl (pc2 := 38) ?_
    refine wp_pi jF_57_38 kd45 (by decide) rfl rfl rfl (pc2 := 41) g10 (lo := 0) (hi := 5) rfl (by omega) (by omega) ?_
    intro τ13 g14 f15 e16
    refine wp_rv jF_57_41 ?_
    have b17 := GI.b hg 58 5 kd58 (lo := 0) (hi := 16) rfl
    have q18 : (τ13.1 58 5) = (σ.1 58 5) := ((FRw.na f15 (by decide)).trans ((FRw.na f11 (by decide)).trans (FRw.na f7 (by decide))))
    have b19 := GI.b hg 64 5 kd64 (lo := 0) (hi := 16) rfl
    have q20 : (τ13.1 64 5) = (σ.1 64 5) := ((FRw.na f15 (by decide)).trans ((FRw.na f11 (by decide)).trans (FRw.na f7 (by decide))))
    exact ⟨rfl, g14, (FR.w (FR.w (FR.w FR.rf f7 rfl) f11 rfl) f15 rfl), (by omega), (by omega)⟩
