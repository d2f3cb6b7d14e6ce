set_option maxHeartbeats 4000000 in
set_option maxRecDepth 20000 in
/-- Tongue.isFull -/
theorem m_43_r20 (σ : jM) (hg : GI σ) (kind : Int) (hl_kind : 0 ≤ kind) (hu_kind : kind ≤ 8)  (fr lo : Nat) (hfr : 1 ≤ fr) (hlo : 20 ≤ lo) : WP 43 0 (lv_args 0 [.ref 20, iV kind]) [] fr lo σ (fun v τ => ∃ z : Int, v = some (iV z) ∧ (0 ≤ z ∧ z ≤ 1) ∧ σ = τ ∧ (z = 0 → kind ≤ 2 → (σ.1 22 (Int.toNat kind)) ≤ 3)) := by
  show WP 43 0 [(0, .ref 20), (1, iV kind)] [] _ _ _ _
  refine wp_il1 jF_43_0 rfl rfl (pc2 := 1) ?_
  rcases m_tsw kind 0 8 with h1 | h1
  · refine wp_tswd (tgt := 121) jF_43_1 ⟨by omega, by omega⟩ h1 (by decide) ?_
    refine wp_ic jF_43_121 rfl (pc2 := 122) ?_
    refine wp_ri jF_43_122 rfl ?_
    exact ⟨0, rfl, ⟨by omega, by omega⟩, rfl, (by omega)⟩
  · have h1c : kind = 0 ∨ kind = 1 ∨ kind = 2 ∨ kind = 3 ∨ kind = 4 ∨ kind = 5 ∨ kind = 6 ∨ kind = 7 ∨ kind = 8 := by omega
    rcases h1c with hh | hh | hh | hh | hh | hh | hh | hh | hh
    · refine wp_tswx (x := 0) (tgt := 52) jF_43_1 hh (by decide) ?_
      subst hh
      refine wp_al1 jF_43_52 rfl rfl (pc2 := 53) ?_
      refine wp_gr (b := 22) jF_43_53 kd20 (by decide) (c := 5) rfl rfl rfl (pc2 := 56) ?_
      refine wp_il1 jF_43_56 rfl rfl (pc2 := 57) ?_
      have b2 := GI.b hg 22 0 kd22 (lo := 0) (hi := 4) rfl
      refine wp_iald (n := 3) (e := (σ.1 22 0)) jF_43_57 kd22 (by decide) rfl rfl (by omega) (by omega) rfl rfl (pc2 := 58) ?_
      refine wp_ic jF_43_58 rfl (pc2 := 59) ?_
      refine wp_i_lt jF_43_59 (m_rgb b2 rfl) (m_rgl rfl) rfl (pc2 := 62) ?_ ?_
      · intro h3
        refine wp_ic jF_43_66 rfl (pc2 := 67) ?_
        refine wp_ri jF_43_67 rfl ?_
        exact ⟨0, rfl, ⟨by omega, by omega⟩, rfl, (fun hz _ => by show (σ.1 22 0) ≤ 3; omega)⟩
      · intro h3
        refine wp_ic jF_43_62 rfl (pc2 := 63) ?_
        refine wp_go jF_43_63 ?_
        refine wp_ri jF_43_67 rfl ?_
        exact ⟨1, rfl, ⟨by omega, by omega⟩, rfl, (fun hz _ => by show (σ.1 22 0) ≤ 3; omega)⟩
    · refine wp_tswx (x := 1) (tgt := 52) jF_43_1 hh (by decide) ?_
      subst hh
      refine wp_al1 jF_43_52 rfl rfl (pc2 := 53) ?_
      refine wp_gr (b := 22) jF_43_53 kd20 (by decide) (c := 5) rfl rfl rfl (pc2 := 56) ?_
      refine wp_il1 jF_43_56 rfl rfl (pc2 := 57) ?_
      have b4 := GI.b hg 22 1 kd22 (lo := 0) (hi := 4) rfl
      refine wp_iald (n := 3) (e := (σ.1 22 1)) jF_43_57 kd22 (by decide) rfl rfl (by omega) (by omega) rfl rfl (pc2 := 58) ?_
      refine wp_ic jF_43_58 rfl (pc2 := 59) ?_
      refine wp_i_lt jF_43_59 (m_rgb b4 rfl) (m_rgl rfl) rfl (pc2 := 62) ?_ ?_
      · intro h5
        refine wp_ic jF_43_66 rfl (pc2 := 67) ?_
        refine wp_ri jF_43_67 rfl ?_
        exact ⟨0, rfl, ⟨by omega, by omega⟩, rfl, (fun hz _ => by show (σ.1 22 1) ≤ 3; omega)⟩
      · intro h5
        refine wp_ic jF_43_62 rfl (pc2 := 63) ?_
        refine wp_go jF_43_63 ?_
        refine wp_ri jF_43_67 rfl ?_
        exact ⟨1, rfl, ⟨by omega, by omega⟩, rfl, (fun hz _ => by show (σ.1 22 1) ≤ 3; omega)⟩
    · refine wp_tswx (x := 2) (tgt := 52) jF_43_1 hh (by decide) ?_
      subst hh
      refine wp_al1 jF_43_52 rfl rfl (pc2 := 53) ?_
      refine wp_gr (b := 22) jF_43_53 kd20 (by decide) (c := 5) rfl rfl rfl (pc2 := 56) ?_
      refine wp_il1 jF_43_56 rfl rfl (pc2 := 57) ?_
      have b6 := GI.b hg 22 2 kd22 (lo := 0) (hi := 4) rfl
      refine wp_iald (n := 3) (e := (σ.1 22 2)) jF_43_57 kd22 (by decide) rfl rfl (by omega) (by omega) rfl rfl (pc2 := 58) ?_
      refine wp_ic jF_43_58 rfl (pc2 := 59) ?_
      refine wp_i_lt jF_43_59 (m_rgb b6 rfl) (m_rgl rfl) rfl (pc2 := 62) ?_ ?_
      · intro h7
        refine wp_ic jF_43_66 rfl (pc2 := 67) ?_
        refine wp_ri jF_43_67 rfl ?_
        exact ⟨0, rfl, ⟨by omega, by omega⟩, rfl, (fun hz _ => by show (σ.1 22 2) ≤ 3; omega)⟩
      · intro h7
        refine wp_ic jF_43_62 rfl (pc2 := 63) ?_
        refine wp_go jF_43_63 ?_
        refine wp_ri jF_43_67 rfl ?_
        exact ⟨1, rfl, ⟨by omega, by omega⟩, rfl, (fun hz _ => by show (σ.1 22 2) ≤ 3; omega)⟩
    · refine wp_tswx (x := 3) (tgt := 68) jF_43_1 hh (by decide) ?_
      subst hh
      refine wp_al1 jF_43_68 rfl rfl (pc2 := 69) ?_
      have b8 := GI.b hg 20 9 kd20 (lo := 0) (hi := 6) rfl
      refine wp_gi jF_43_69 kd20 (by decide) rfl rfl rfl (pc2 := 72) ?_
      refine wp_bi jF_43_72 (by decide) rfl (pc2 := 74) ?_
      refine wp_i_lt jF_43_74 (m_rgb b8 rfl) (m_rgl rfl) rfl (pc2 := 77) ?_ ?_
      · intro h9
        refine wp_ic jF_43_81 rfl (pc2 := 82) ?_
        refine wp_ri jF_43_82 rfl ?_
        exact ⟨0, rfl, ⟨by omega, by omega⟩, rfl, (by omega)⟩
      · intro h9
        refine wp_ic jF_43_77 rfl (pc2 := 78) ?_
        refine wp_go jF_43_78 ?_
        refine wp_ri jF_43_82 rfl ?_
        exact ⟨1, rfl, ⟨by omega, by omega⟩, rfl, (by omega)⟩
    · refine wp_tswx (x := 4) (tgt := 121) jF_43_1 hh (by decide) ?_
      subst hh
      refine wp_ic jF_43_121 rfl (pc2 := 122) ?_
      refine wp_ri jF_43_122 rfl ?_
      exact ⟨0, rfl, ⟨by omega, by omega⟩, rfl, (by omega)⟩
    · refine wp_tswx (x := 5) (tgt := 83) jF_43_1 hh (by decide) ?_
      subst hh
      refine wp_al1 jF_43_83 rfl rfl (pc2 := 84) ?_
      have b10 := GI.b hg 20 11 kd20 (lo := 0) (hi := 5) rfl
      refine wp_gi jF_43_84 kd20 (by decide) rfl rfl rfl (pc2 := 87) ?_
      refine wp_ic jF_43_87 rfl (pc2 := 88) ?_
      refine wp_i_lt jF_43_88 (m_rgb b10 rfl) (m_rgl rfl) rfl (pc2 := 91) ?_ ?_
      · intro h11
        refine wp_ic jF_43_95 rfl (pc2 := 96) ?_
        refine wp_ri jF_43_96 rfl ?_
        exact ⟨0, rfl, ⟨by omega, by omega⟩, rfl, (by omega)⟩
      · intro h11
        refine wp_ic jF_43_91 rfl (pc2 := 92) ?_
        refine wp_go jF_43_92 ?_
        refine wp_ri jF_43_96 rfl ?_
        exact ⟨1, rfl, ⟨by omega, by omega⟩, rfl, (by omega)⟩
    · refine wp_tswx (x := 6) (tgt := 97) jF_43_1 hh (by decide) ?_
      subst hh
      refine wp_al1 jF_43_97 rfl rfl (pc2 := 98) ?_
      refine wp_gr (b := 27) jF_43_98 kd20 (by decide) (c := 10) rfl rfl rfl (pc2 := 101) ?_
      refine wp_cV (as := []) (rest := []) (a := 27) (mx := 1) (ci := 7) jF_43_101 kd27 (by decide) rfl rfl rfl rfl rfl (by omega) (by omega) rfl (pc2 := 104) ?_
      have b12 := GI.b hg 27 5 kd27 (lo := 0) (hi := 16) rfl
      refine wp_use (m_44_r27 σ hg   _ _ (by omega) (by omega)) ?_
      rintro _ _ ⟨z16, rfl, h17, rfl, p13⟩
      show WP 43 104 [(0, .ref 20), (1, iV 6)] [iV z16] _ _ _ _
      refine wp_ri jF_43_104 (m_fitb (by omega) (by omega)) ?_
      exact ⟨z16, rfl, ⟨by omega, by omega⟩, rfl, (by omega)⟩
    · refine wp_tswx (x := 7) (tgt := 105) jF_43_1 hh (by decide) ?_
      subst hh
      refine wp_al1 jF_43_105 rfl rfl (pc2 := 106) ?_
      refine wp_gr (b := 33) jF_43_106 kd20 (by decide) (c := 16) rfl rfl rfl (pc2 := 109) ?_
      refine wp_cV (as := []) (rest := []) (a := 33) (mx := 1) (ci := 7) jF_43_109 kd33 (by decide) rfl rfl rfl rfl rfl (by omega) (by omega) rfl (pc2 := 112) ?_
      have b18 := GI.b hg 33 5 kd33 (lo := 0) (hi := 16) rfl
      refine wp_use (m_44_r33 σ hg   _ _ (by omega) (by omega)) ?_
      rintro _ _ ⟨z22, rfl, h23, rfl, p19⟩
      show WP 43 112 [(0, .ref 20), (1, iV 7)] [iV z22] _ _ _ _
      refine wp_ri jF_43_112 (m_fitb (by omega) (by omega)) ?_
      exact ⟨z22, rfl, ⟨by omega, by omega⟩, rfl, (by omega)⟩
    · refine wp_tswx (x := 8) (tgt := 113) jF_43_1 hh (by decide) ?_
      subst hh
      refine wp_al1 jF_43_113 rfl rfl (pc2 := 114) ?_
      refine wp_gr (b := 39) jF_43_114 kd20 (by decide) (c := 22) rfl rfl rfl (pc2 := 117) ?_
      refine wp_cV (as := []) (rest := []) (a := 39) (mx := 1) (ci := 7) jF_43_117 kd39 (by decide) rfl rfl rfl rfl rfl (by omega) (by omega) rfl (pc2 := 120) ?_
      have b24 := GI.b hg 39 5 kd39 (lo := 0) (hi := 16) rfl
      refine wp_use (m_44_r39 σ hg   _ _ (by omega) (by omega)) ?_
      rintro _ _ ⟨z28, rfl, h29, rfl, p25⟩
      show WP 43 120 [(0, .ref 20), (1, iV 8)] [iV z28] _ _ _ _
      refine wp_ri jF_43_120 (m_fitb (by omega) (by omega)) ?_
      exact ⟨z28, rfl, ⟨by omega, by omega⟩, rfl, (by omega)⟩
set_option maxHeartbeats 4000000 in
set_option maxRecDepth 20000 in
/-- Tongue.find -/
theorem m_50_r20 (σ : jM) (hg : GI σ) (code : Int) (hl_code : (-2147483648) ≤ code) (hu_code : code ≤ 2147483647)  (fr lo : Nat) (hfr : 0 ≤ fr) (hlo : 0 ≤ lo) : WP 50 0 (lv_args 0 [.ref 20, iV code]) [] fr lo σ (fun v τ => ∃ z : Int, v = some (iV z) ∧ ((-1) ≤ z ∧ z ≤ 24) ∧ σ = τ) := by
  show WP 50 0 [(0, .ref 20), (1, iV code)] [] _ _ _ _
  refine wp_ic jF_50_0 rfl (pc2 := 1) ?_
  refine wp_is1 (lv2 := [(0, .ref 20), (1, iV code), (2, iV 0)]) jF_50_1 rfl rfl rfl (pc2 := 2) ?_
  refine wp_loop (α := Int) (fun a => [(0, .ref 20), (1, iV code), (2, iV (a))]) (fun a τ => (0 ≤ a ∧ a ≤ 25) ∧ σ = τ) (fun a τ => Int.toNat (25 - (a))) (0) σ ?_ ?_
  · skip
    exact ⟨⟨by omega, by omega⟩, rfl⟩
  · rintro x1 _ ⟨h2, rfl⟩ ih6
    show WP 50 2 [(0, .ref 20), (1, iV code), (2, iV x1)] [] _ _ _ _
    show WP 50 2 [(0, .ref 20), (1, iV code), (2, iV x1)] [] _ _ _ _
    refine wp_il1 jF_50_2 rfl rfl (pc2 := 3) ?_
    refine wp_al1 jF_50_3 rfl rfl (pc2 := 4) ?_
    refine wp_gr (b := 21) jF_50_4 kd20 (by decide) (c := 4) rfl rfl rfl (pc2 := 7) ?_
    refine wp_len (n := 25) (t := 0) jF_50_7 kd21 (by decide) rfl rfl (pc2 := 8) ?_
    refine wp_i_ge jF_50_8 (m_rgb h2 rfl) (m_rgl rfl) rfl (pc2 := 11) ?_ ?_
    · intro h7
      refine wp_ic jF_50_29 rfl (pc2 := 30) ?_
      refine wp_ri jF_50_30 rfl ?_
      exact ⟨(-1), rfl, ⟨by omega, by omega⟩, rfl⟩
    · intro h7
      refine wp_al1 jF_50_11 rfl rfl (pc2 := 12) ?_
      refine wp_gr (b := 21) jF_50_12 kd20 (by decide) (c := 4) rfl rfl rfl (pc2 := 15) ?_
      refine wp_il1 jF_50_15 rfl rfl (pc2 := 16) ?_
      have b8 := GI.b hg 21 x1.toNat kd21 (lo := (-2147483648)) (hi := 2147483647) rfl
      refine wp_iald (n := 25) (e := (σ.1 21 x1.toNat)) jF_50_16 kd21 (by decide) rfl rfl (by omega) (by omega) rfl rfl (pc2 := 17) ?_
      refine wp_il1 jF_50_17 rfl rfl (pc2 := 18) ?_
      refine wp_i_ne jF_50_18 (m_rgb b8 rfl) ⟨by omega, by omega⟩ rfl (pc2 := 21) ?_ ?_
      · intro h9
        refine wp_inc (lv2 := [(0, .ref 20), (1, iV code), (2, iV (x1 + 1))]) jF_50_23 rfl rfl rfl rfl (pc2 := 26) ?_
        refine wp_go jF_50_26 ?_
        exact ih6 ((x1 + 1)) σ ⟨⟨by omega, by omega⟩, rfl⟩ (by show Int.toNat (25 - (x1 + 1)) < Int.toNat (25 - x1); omega)
      · intro h9
        refine wp_il1 jF_50_21 rfl rfl (pc2 := 22) ?_
        refine wp_ri jF_50_22 rfl ?_
        exact ⟨x1, rfl, ⟨by omega, by omega⟩, rfl⟩
set_option maxHeartbeats 4000000 in
set_option maxRecDepth 20000 in
/-- Tongue.isParty -/
theorem m_51_r20 (σ : jM) (hg : GI σ) (fd : Int) (hl_fd : (-2147483648) ≤ fd) (hu_fd : fd ≤ 2147483647)  (fr lo : Nat) (hfr : 0 ≤ fr) (hlo : 0 ≤ lo) : WP 51 0 (lv_args 0 [.ref 20, iV fd]) [] fr lo σ (fun v τ => ∃ z : Int, v = some (iV z) ∧ (0 ≤ z ∧ z ≤ 1) ∧ σ = τ) := by
  show WP 51 0 [(0, .ref 20), (1, iV fd)] [] _ _ _ _
  refine wp_il1 jF_51_0 rfl rfl (pc2 := 1) ?_
  refine wp_bi jF_51_1 (by decide) rfl (pc2 := 3) ?_
  refine wp_i_lt jF_51_3 ⟨by omega, by omega⟩ (m_rgl rfl) rfl (pc2 := 6) ?_ ?_
  · intro h1
    refine wp_ic jF_51_21 rfl (pc2 := 22) ?_
    refine wp_ri jF_51_22 rfl ?_
    exact ⟨0, rfl, ⟨by omega, by omega⟩, rfl⟩
  · intro h1
    refine wp_il1 jF_51_6 rfl rfl (pc2 := 7) ?_
    refine wp_bi jF_51_7 (by decide) rfl (pc2 := 9) ?_
    refine wp_al1 jF_51_9 rfl rfl (pc2 := 10) ?_
    have b2 := GI.b hg 20 11 kd20 (lo := 0) (hi := 5) rfl
    refine wp_gi jF_51_10 kd20 (by decide) rfl rfl rfl (pc2 := 13) ?_
    refine wp_add jF_51_13 rfl (pc2 := 14) ?_
    refine wp_i_ge jF_51_14 ⟨by omega, by omega⟩ ⟨by omega, by omega⟩ rfl (pc2 := 17) ?_ ?_
    · intro h3
      refine wp_ic jF_51_21 rfl (pc2 := 22) ?_
      refine wp_ri jF_51_22 rfl ?_
      exact ⟨0, rfl, ⟨by omega, by omega⟩, rfl⟩
    · intro h3
      refine wp_ic jF_51_17 rfl (pc2 := 18) ?_
      refine wp_go jF_51_18 ?_
      refine wp_ri jF_51_22 rfl ?_
      exact ⟨1, rfl, ⟨by omega, by omega⟩, rfl⟩
set_option maxHeartbeats 4000000 in
set_option maxRecDepth 20000 in
/-- Tongue.addWord -/
theorem m_67_r20 (σ : jM) (hg : GI σ) (sort : Int) (hl_sort : 0 ≤ sort) (hu_sort : sort ≤ 8) (code : Int) (hl_code : (-2147483648) ≤ code) (hu_code : code ≤ 2147483647)  (fr lo : Nat) (hfr : 2 ≤ fr) (hlo : 41 ≤ lo) : WP 67 0 (lv_args 0 [.ref 20, iV sort, iV code]) [] fr lo σ (fun v τ => v = none ∧ GI τ ∧ FR WG20 σ τ ∧ ((τ.1 33 5) = (σ.1 33 5)) ∧ ((τ.1 39 5) = (σ.1 39 5))) := by
  show WP 67 0 [(0, .ref 20), (1, iV sort), (2, iV code)] [] _ _ _ _
  refine wp_il1 jF_67_0 rfl rfl (pc2 := 1) ?_
  refine wp_z_lt jF_67_1 ⟨by omega, by omega⟩ rfl (pc2 := 4) ?_ ?_
  · intro h1; exfalso; omega
  · intro h1
    refine wp_il1 jF_67_4 rfl rfl (pc2 := 5) ?_
    refine wp_ic jF_67_5 rfl (pc2 := 6) ?_
    refine wp_i_ge jF_67_6 ⟨by omega, by omega⟩ (m_rgl rfl) rfl (pc2 := 9) ?_ ?_
    · intro h2
      refine wp_rv jF_67_43 ?_
      have b3 := GI.b hg 33 5 kd33 (lo := 0) (hi := 16) rfl
      have b4 := GI.b hg 39 5 kd39 (lo := 0) (hi := 16) rfl
      exact ⟨rfl, hg, FR.rf, (by omega), (by omega)⟩
    · intro h2
      refine wp_al1 jF_67_9 rfl rfl (pc2 := 10) ?_
      refine wp_il1 jF_67_10 rfl rfl (pc2 := 11) ?_
      refine wp_cV (as := [iV sort]) (rest := []) (a := 20) (mx := 2) (ci := 8) jF_67_11 kd20 (by decide) rfl rfl rfl rfl rfl (by omega) (by omega) rfl (pc2 := 14) ?_
      refine wp_use (m_43_r20 σ hg sort (by omega) (by omega)  _ _ (by omega) (by omega)) ?_
      rintro _ _ ⟨z8, rfl, h9, rfl, p5⟩
      show WP 67 14 [(0, .ref 20), (1, iV sort), (2, iV code)] [iV z8] _ _ _ _
      refine wp_z_ne jF_67_14 (m_rgb h9 rfl) rfl (pc2 := 17) ?_ ?_
      · intro h10
        clear p5
        refine wp_rv jF_67_43 ?_
        have b11 := GI.b hg 33 5 kd33 (lo := 0) (hi := 16) rfl
        have b12 := GI.b hg 39 5 kd39 (lo := 0) (hi := 16) rfl
        exact ⟨rfl, hg, FR.rf, (by omega), (by omega)⟩
      · intro h10
        replace p5 := p5 (by omega)
        refine wp_al1 jF_67_17 rfl rfl (pc2 := 18) ?_
        refine wp_gr (b := 21) jF_67_18 kd20 (by decide) (c := 4) rfl rfl rfl (pc2 := 21) ?_
        refine wp_il1 jF_67_21 rfl rfl (pc2 := 22) ?_
        refine wp_ic jF_67_22 rfl (pc2 := 23) ?_
        refine wp_mul jF_67_23 rfl (pc2 := 24) ?_
        refine wp_al1 jF_67_24 rfl rfl (pc2 := 25) ?_
        refine wp_gr (b := 22) jF_67_25 kd20 (by decide) (c := 5) rfl rfl rfl (pc2 := 28) ?_
        refine wp_il1 jF_67_28 rfl rfl (pc2 := 29) ?_
        have b13 := GI.b hg 22 sort.toNat kd22 (lo := 0) (hi := 4) rfl
        refine wp_iald (n := 3) (e := (σ.1 22 sort.toNat)) jF_67_29 kd22 (by decide) rfl rfl (by omega) (by omega) rfl rfl (pc2 := 30) ?_
        refine wp_add jF_67_30 rfl (pc2 := 31) ?_
        refine wp_il1 jF_67_31 rfl rfl (pc2 := 32) ?_
        refine wp_iast (n := 25) jF_67_32 kd21 (by decide) rfl rfl (by omega) (by omega) rfl (pc2 := 33) hg (lo := (-2147483648)) (hi := 2147483647) rfl (by omega) (by omega) ?_
        intro τ14 g15 f16 e17
        refine wp_al1 jF_67_33 rfl rfl (pc2 := 34) ?_
        refine wp_gr (b := 22) jF_67_34 kd20 (by decide) (c := 5) rfl rfl rfl (pc2 := 37) ?_
        refine wp_il1 jF_67_37 rfl rfl (pc2 := 38) ?_
        refine wp_du2 jF_67_38 rfl rfl (pc2 := 39) ?_
        refine wp_iald (n := 3) (e := (σ.1 22 sort.toNat)) jF_67_39 kd22 (by decide) rfl rfl (by omega) (by omega) (FRw.na f16 (by decide)) rfl (pc2 := 40) ?_
        refine wp_ic jF_67_40 rfl (pc2 := 41) ?_
        refine wp_add jF_67_41 rfl (pc2 := 42) ?_
        refine wp_iast (n := 3) jF_67_42 kd22 (by decide) rfl rfl (by omega) (by omega) rfl (pc2 := 43) g15 (lo := 0) (hi := 4) rfl (by omega) (by omega) ?_
        intro τ18 g19 f20 e21
        refine wp_rv jF_67_43 ?_
        have b22 := GI.b hg 33 5 kd33 (lo := 0) (hi := 16) rfl
        have q23 : (τ18.1 33 5) = (σ.1 33 5) := ((FRw.na f20 (by decide)).trans (FRw.na f16 (by decide)))
        have b24 := GI.b hg 39 5 kd39 (lo := 0) (hi := 16) rfl
        have q25 : (τ18.1 39 5) = (σ.1 39 5) := ((FRw.na f20 (by decide)).trans (FRw.na f16 (by decide)))
        exact ⟨rfl, g19, (FR.w (FR.w FR.rf f16 rfl) f20 rfl), (by omega), (by omega)⟩
set_option maxHeartbeats 4000000 in
set_option maxRecDepth 20000 in
/-- Tongue.addLike -/
theorem m_52_r20 (σ : jM) (hg : GI σ) (code : Int) (hl_code : (-2147483648) ≤ code) (hu_code : code ≤ 2147483647) (mg : Int) (hl_mg : (-2147483648) ≤ mg) (hu_mg : mg ≤ 2147483647)  (fr lo : Nat) (hfr : 0 ≤ fr) (hlo : 0 ≤ lo) : WP 52 0 (lv_args 0 [.ref 20, iV code, iV mg]) [] fr lo σ (fun v τ => v = none ∧ GI τ ∧ FR WG20 σ τ ∧ ((τ.1 33 5) = (σ.1 33 5)) ∧ ((τ.1 39 5) = (σ.1 39 5))) := by
  show WP 52 0 [(0, .ref 20), (1, iV code), (2, iV mg)] [] _ _ _ _
  refine wp_al1 jF_52_0 rfl rfl (pc2 := 1) ?_
  have b1 := GI.b hg 20 9 kd20 (lo := 0) (hi := 6) rfl
  refine wp_gi jF_52_1 kd20 (by decide) rfl rfl rfl (pc2 := 4) ?_
  refine wp_bi jF_52_4 (by decide) rfl (pc2 := 6) ?_
  refine wp_i_ge jF_52_6 (m_rgb b1 rfl) (m_rgl rfl) rfl (pc2 := 9) ?_ ?_
  · intro h2
    refine wp_rv jF_52_42 ?_
    have b3 := GI.b hg 33 5 kd33 (lo := 0) (hi := 16) rfl
    have b4 := GI.b hg 39 5 kd39 (lo := 0) (hi := 16) rfl
    exact ⟨rfl, hg, FR.rf, (by omega), (by omega)⟩
  · intro h2
    refine wp_al1 jF_52_9 rfl rfl (pc2 := 10) ?_
    refine wp_gr (b := 21) jF_52_10 kd20 (by decide) (c := 4) rfl rfl rfl (pc2 := 13) ?_
    refine wp_bi jF_52_13 (by decide) rfl (pc2 := 15) ?_
    refine wp_al1 jF_52_15 rfl rfl (pc2 := 16) ?_
    refine wp_gi jF_52_16 kd20 (by decide) rfl rfl rfl (pc2 := 19) ?_
    refine wp_add jF_52_19 rfl (pc2 := 20) ?_
    refine wp_il1 jF_52_20 rfl rfl (pc2 := 21) ?_
    refine wp_iast (n := 25) jF_52_21 kd21 (by decide) rfl rfl (by omega) (by omega) rfl (pc2 := 22) hg (lo := (-2147483648)) (hi := 2147483647) rfl (by omega) (by omega) ?_
    intro τ5 g6 f7 e8
    refine wp_al1 jF_52_22 rfl rfl (pc2 := 23) ?_
    refine wp_gr (b := 23) jF_52_23 kd20 (by decide) (c := 6) rfl rfl rfl (pc2 := 26) ?_
    refine wp_al1 jF_52_26 rfl rfl (pc2 := 27) ?_
    refine wp_gi jF_52_27 kd20 (by decide) rfl (FRw.na f7 (by decide)) rfl (pc2 := 30) ?_
    refine wp_il1 jF_52_30 rfl rfl (pc2 := 31) ?_
    refine wp_iast (n := 6) jF_52_31 kd23 (by decide) rfl rfl (by omega) (by omega) rfl (pc2 := 32) g6 (lo := (-2147483648)) (hi := 2147483647) rfl (by omega) (by omega) ?_
    intro τ9 g10 f11 e12
    refine wp_al1 jF_52_32 rfl rfl (pc2 := 33) ?_
    refine wp_dup jF_52_33 rfl rfl (pc2 := 34) ?_
    refine wp_gi jF_52_34 kd20 (by decide) rfl ((FRw.na f11 (by decide)).trans (FRw.na f7 (by decide))) rfl (pc2 := 37) ?_
    refine wp_ic jF_52_37 rfl (pc2 := 38) ?_
    refine wp_add jF_52_38 rfl (pc2 := 39) ?_
    refine wp_pi jF_52_39 kd20 (by decide) rfl rfl rfl (pc2 := 42) g10 (lo := 0) (hi := 6) rfl (by omega) (by omega) ?_
    intro τ13 g14 f15 e16
    refine wp_rv jF_52_42 ?_
    have b17 := GI.b hg 33 5 kd33 (lo := 0) (hi := 16) rfl
    have q18 : (τ13.1 33 5) = (σ.1 33 5) := ((FRw.na f15 (by decide)).trans ((FRw.na f11 (by decide)).trans (FRw.na f7 (by decide))))
    have b19 := GI.b hg 39 5 kd39 (lo := 0) (hi := 16) rfl
    have q20 : (τ13.1 39 5) = (σ.1 39 5) := ((FRw.na f15 (by decide)).trans ((FRw.na f11 (by decide)).trans (FRw.na f7 (by decide))))
    exact ⟨rfl, g14, (FR.w (FR.w (FR.w FR.rf f7 rfl) f11 rfl) f15 rfl), (by omega), (by omega)⟩
set_option maxHeartbeats 4000000 in
set_option maxRecDepth 20000 in
/-- Tongue.addParty -/
theorem m_57_r20 (σ : jM) (hg : GI σ) (code : Int) (hl_code : (-2147483648) ≤ code) (hu_code : code ≤ 2147483647) (vt : Int) (hl_vt : (-2147483648) ≤ vt) (hu_vt : vt ≤ 2147483647)  (fr lo : Nat) (hfr : 0 ≤ fr) (hlo : 0 ≤ lo) : WP 57 0 (lv_args 0 [.ref 20, iV code, iV vt]) [] fr lo σ (fun v τ => v = none ∧ GI τ ∧ FR WG20 σ τ ∧ ((τ.1 33 5) = (σ.1 33 5)) ∧ ((τ.1 39 5) = (σ.1 39 5))) := by
  show WP 57 0 [(0, .ref 20), (1, iV code), (2, iV vt)] [] _ _ _ _
  refine wp_al1 jF_57_0 rfl rfl (pc2 := 1) ?_
  have b1 := GI.b hg 20 11 kd20 (lo := 0) (hi := 5) rfl
  refine wp_gi jF_57_1 kd20 (by decide) rfl rfl rfl (pc2 := 4) ?_
  refine wp_ic jF_57_4 rfl (pc2 := 5) ?_
  refine wp_i_ge jF_57_5 (m_rgb b1 rfl) (m_rgl rfl) rfl (pc2 := 8) ?_ ?_
  · intro h2
    refine wp_rv jF_57_41 ?_
    have b3 := GI.b hg 33 5 kd33 (lo := 0) (hi := 16) rfl
    have b4 := GI.b hg 39 5 kd39 (lo := 0) (hi := 16) rfl
    exact ⟨rfl, hg, FR.rf, (by omega), (by omega)⟩
  · intro h2
    refine wp_al1 jF_57_8 rfl rfl (pc2 := 9) ?_
    refine wp_gr (b := 21) jF_57_9 kd20 (by decide) (c := 4) rfl rfl rfl (pc2 := 12) ?_
    refine wp_bi jF_57_12 (by decide) rfl (pc2 := 14) ?_
    refine wp_al1 jF_57_14 rfl rfl (pc2 := 15) ?_
    refine wp_gi jF_57_15 kd20 (by decide) rfl rfl rfl (pc2 := 18) ?_
    refine wp_add jF_57_18 rfl (pc2 := 19) ?_
    refine wp_il1 jF_57_19 rfl rfl (pc2 := 20) ?_
    refine wp_iast (n := 25) jF_57_20 kd21 (by decide) rfl rfl (by omega) (by omega) rfl (pc2 := 21) hg (lo := (-2147483648)) (hi := 2147483647) rfl (by omega) (by omega) ?_
    intro τ5 g6 f7 e8
    refine wp_al1 jF_57_21 rfl rfl (pc2 := 22) ?_
    refine wp_gr (b := 24) jF_57_22 kd20 (by decide) (c := 7) rfl rfl rfl (pc2 := 25) ?_
    refine wp_al1 jF_57_25 rfl rfl (pc2 := 26) ?_
    refine wp_gi jF_57_26 kd20 (by decide) rfl (FRw.na f7 (by decide)) rfl (pc2 := 29) ?_
    refine wp_il1 jF_57_29 rfl rfl (pc2 := 30) ?_
    refine wp_iast (n := 5) jF_57_30 kd24 (by decide) rfl rfl (by omega) (by omega) rfl (pc2 := 31) g6 (lo := (-2147483648)) (hi := 2147483647) rfl (by omega) (by omega) ?_
    intro τ9 g10 f11 e12
    refine wp_al1 jF_57_31 rfl rfl (pc2 := 32) ?_
    refine wp_dup jF_57_32 rfl rfl (pc2 := 33) ?_
    refine wp_gi jF_57_33 kd20 (by decide) rfl ((FRw.na f11 (by decide)).trans (FRw.na f7 (by decide))) rfl (pc2 := 36) ?_
    refine wp_ic jF_57_36 rfl (pc2 := 37) ?_
    refine wp_add jF_57_37 rfl (pc2 := 38) ?_
    refine wp_pi jF_57_38 kd20 (by decide) rfl rfl rfl (pc2 := 41) g10 (lo := 0) (hi := 5) rfl (by omega) (by omega) ?_
    intro τ13 g14 f15 e16
    refine wp_rv jF_57_41 ?_
    have b17 := GI.b hg 33 5 kd33 (lo := 0) (hi := 16) rfl
    have q18 : (τ13.1 33 5) = (σ.1 33 5) := ((FRw.na f15 (by decide)).trans ((FRw.na f11 (by decide)).trans (FRw.na f7 (by decide))))
    have b19 := GI.b hg 39 5 kd39 (lo := 0) (hi := 16) rfl
    have q20 : (τ13.1 39 5) = (σ.1 39 5) := ((FRw.na f15 (by decide)).trans ((FRw.na f11 (by decide)).trans (FRw.na f7 (by decide))))
    exact ⟨rfl, g14, (FR.w (FR.w (FR.w FR.rf f7 rfl) f11 rfl) f15 rfl), (by omega), (by omega)⟩
set_option maxHeartbeats 4000000 in
set_option maxRecDepth 20000 in
/-- Tongue.settle -/
theorem m_69_r20 (σ : jM) (hg : GI σ)  (pre0 : (σ.1 33 5) ≤ 8) (pre1 : (σ.1 39 5) ≤ 10) (fr lo : Nat) (hfr : 1 ≤ fr) (hlo : 26 ≤ lo) : WP 69 0 (lv_args 0 [.ref 20]) [] fr lo σ (fun v τ => v = none ∧ GI τ ∧ FR WG20 σ τ ∧ ((τ.1 33 5) = (σ.1 33 5)) ∧ ((τ.1 39 5) = (σ.1 39 5))) := by
  show WP 69 0 [(0, .ref 20)] [] _ _ _ _
  refine wp_ic jF_69_0 rfl (pc2 := 1) ?_
  refine wp_is1 (lv2 := [(0, .ref 20), (1, iV 0)]) jF_69_1 rfl rfl rfl (pc2 := 2) ?_
  have b1 := GI.b hg 33 5 kd33 (lo := 0) (hi := 16) rfl
  have b2 := GI.b hg 39 5 kd39 (lo := 0) (hi := 16) rfl
  refine wp_loop (α := Int) (fun a => [(0, .ref 20), (1, iV (a))]) (fun a τ => (0 ≤ a ∧ a ≤ 4) ∧ GI τ ∧ FR WG20 σ τ ∧ ((τ.1 33 5) = (σ.1 33 5)) ∧ ((τ.1 39 5) = (σ.1 39 5))) (fun a τ => Int.toNat (4 - (a))) (0) σ ?_ ?_
  · skip
    exact ⟨⟨by omega, by omega⟩, hg, FR.rf, (by omega), (by omega)⟩
  · rintro x3 τ5 ⟨h4, g6, f7, p8, p9⟩ ih10
    have b11 := GI.b g6 33 5 kd33 (lo := 0) (hi := 16) rfl
    have b12 := GI.b g6 39 5 kd39 (lo := 0) (hi := 16) rfl
    show WP 69 2 [(0, .ref 20), (1, iV x3)] [] _ _ _ _
    show WP 69 2 [(0, .ref 20), (1, iV x3)] [] _ _ _ _
    refine wp_il1 jF_69_2 rfl rfl (pc2 := 3) ?_
    refine wp_al1 jF_69_3 rfl rfl (pc2 := 4) ?_
    refine wp_gr (b := 22) jF_69_4 kd20 (by decide) (c := 5) rfl rfl rfl (pc2 := 7) ?_
    refine wp_ic jF_69_7 rfl (pc2 := 8) ?_
    have b13 := GI.b g6 22 2 kd22 (lo := 0) (hi := 4) rfl
    refine wp_iald (n := 3) (e := (τ5.1 22 2)) jF_69_8 kd22 (by decide) rfl rfl (by omega) (by omega) rfl rfl (pc2 := 9) ?_
    refine wp_i_ge jF_69_9 (m_rgb h4 rfl) (m_rgb b13 rfl) rfl (pc2 := 12) ?_ ?_
    · intro h14
      refine wp_ic jF_69_121 rfl (pc2 := 122) ?_
      refine wp_is1 (lv2 := [(0, .ref 20), (1, iV 0)]) jF_69_122 rfl rfl rfl (pc2 := 123) ?_
      refine wp_loop (α := Int) (fun a => [(0, .ref 20), (1, iV (a))]) (fun a τ => (0 ≤ a ∧ a ≤ 6) ∧ GI τ ∧ FR WG20 τ5 τ ∧ ((τ.1 33 5) = (τ5.1 33 5)) ∧ ((τ.1 39 5) = (τ5.1 39 5))) (fun a τ => Int.toNat (6 - (a))) (0) τ5 ?_ ?_
      · skip
        exact ⟨⟨by omega, by omega⟩, g6, FR.rf, (by omega), (by omega)⟩
      · rintro x15 τ17 ⟨h16, g18, f19, p20, p21⟩ ih22
        have b23 := GI.b g18 33 5 kd33 (lo := 0) (hi := 16) rfl
        have b24 := GI.b g18 39 5 kd39 (lo := 0) (hi := 16) rfl
        show WP 69 123 [(0, .ref 20), (1, iV x15)] [] _ _ _ _
        show WP 69 123 [(0, .ref 20), (1, iV x15)] [] _ _ _ _
        refine wp_il1 jF_69_123 rfl rfl (pc2 := 124) ?_
        refine wp_al1 jF_69_124 rfl rfl (pc2 := 125) ?_
        have b25 := GI.b g18 20 9 kd20 (lo := 0) (hi := 6) rfl
        refine wp_gi jF_69_125 kd20 (by decide) rfl rfl rfl (pc2 := 128) ?_
        refine wp_i_ge jF_69_128 (m_rgb h16 rfl) (m_rgb b25 rfl) rfl (pc2 := 131) ?_ ?_
        · intro h26
          refine wp_al1 jF_69_179 rfl rfl (pc2 := 180) ?_
          refine wp_gr (b := 27) jF_69_180 kd20 (by decide) (c := 10) rfl rfl rfl (pc2 := 183) ?_
          refine wp_al1 jF_69_183 rfl rfl (pc2 := 184) ?_
          refine wp_glA jF_69_184 kd20 (by decide) rfl rfl (pc2 := 187) ?_
          intro y27
          refine wp_al1 jF_69_187 rfl rfl (pc2 := 188) ?_
          refine wp_gr (b := 26) jF_69_188 kd20 (by decide) (c := 9) rfl rfl rfl (pc2 := 191) ?_
          refine wp_cV (as := [.long y27, .ref 26]) (rest := []) (a := 27) (mx := 7) (ci := 7) jF_69_191 kd27 (by decide) rfl rfl rfl rfl rfl (by omega) (by omega) rfl (pc2 := 194) ?_
          have b28 := GI.b g18 27 5 kd27 (lo := 0) (hi := 16) rfl
          refine wp_use (m_70_r27_26 τ17 g18 y27 (by omega) _ _ (by omega) (by omega)) ?_
          rintro _ τ30 ⟨rfl, g31, f32, p29⟩
          show WP 69 194 [(0, .ref 20), (1, iV x15)] [] _ _ _ _
          refine wp_al1 jF_69_194 rfl rfl (pc2 := 195) ?_
          refine wp_gr (b := 33) jF_69_195 kd20 (by decide) (c := 16) rfl rfl rfl (pc2 := 198) ?_
          refine wp_al1 jF_69_198 rfl rfl (pc2 := 199) ?_
          refine wp_glA jF_69_199 kd20 (by decide) rfl rfl (pc2 := 202) ?_
          intro y33
          refine wp_al1 jF_69_202 rfl rfl (pc2 := 203) ?_
          refine wp_gr (b := 26) jF_69_203 kd20 (by decide) (c := 9) rfl rfl rfl (pc2 := 206) ?_
          refine wp_cV (as := [.long y33, .ref 26]) (rest := []) (a := 33) (mx := 7) (ci := 7) jF_69_206 kd33 (by decide) rfl rfl rfl rfl rfl (by omega) (by omega) rfl (pc2 := 209) ?_
          have q34 : (τ30.1 33 5) = (τ17.1 33 5) := (FR.at f32 33 5 rfl)
          refine wp_use (m_70_r33_26 τ30 g31 y33 (by omega) _ _ (by omega) (by omega)) ?_
          rintro _ τ36 ⟨rfl, g37, f38, p35⟩
          show WP 69 209 [(0, .ref 20), (1, iV x15)] [] _ _ _ _
          refine wp_al1 jF_69_209 rfl rfl (pc2 := 210) ?_
          refine wp_gr (b := 39) jF_69_210 kd20 (by decide) (c := 22) rfl rfl rfl (pc2 := 213) ?_
          refine wp_al1 jF_69_213 rfl rfl (pc2 := 214) ?_
          refine wp_glA jF_69_214 kd20 (by decide) rfl rfl (pc2 := 217) ?_
          intro y39
          refine wp_al1 jF_69_217 rfl rfl (pc2 := 218) ?_
          refine wp_gr (b := 26) jF_69_218 kd20 (by decide) (c := 9) rfl rfl rfl (pc2 := 221) ?_
          refine wp_cV (as := [.long y39, .ref 26]) (rest := []) (a := 39) (mx := 7) (ci := 7) jF_69_221 kd39 (by decide) rfl rfl rfl rfl rfl (by omega) (by omega) rfl (pc2 := 224) ?_
          have q40 : (τ36.1 39 5) = (τ17.1 39 5) := ((FR.at f38 39 5 rfl).trans (FR.at f32 39 5 rfl))
          refine wp_use (m_70_r39_26 τ36 g37 y39 (by omega) _ _ (by omega) (by omega)) ?_
          rintro _ τ42 ⟨rfl, g43, f44, p41⟩
          show WP 69 224 [(0, .ref 20), (1, iV x15)] [] _ _ _ _
          refine wp_rv jF_69_224 ?_
          have b45 := GI.b g37 33 5 kd33 (lo := 0) (hi := 16) rfl
          have q46 : (τ42.1 33 5) = (τ36.1 33 5) := (FR.at f44 33 5 rfl)
          have b47 := GI.b g43 39 5 kd39 (lo := 0) (hi := 16) rfl
          exact ⟨rfl, g43, (FR.up (FR.up (FR.up (FR.up f7 f19 sb_WG20_WG20) f32 sb_WT27_WG20) f38 sb_WT33_WG20) f44 sb_WT39_WG20), (by omega), (by omega)⟩
        · intro h26
          refine wp_al1 jF_69_131 rfl rfl (pc2 := 132) ?_
          refine wp_gr (b := 23) jF_69_132 kd20 (by decide) (c := 6) rfl rfl rfl (pc2 := 135) ?_
          refine wp_il1 jF_69_135 rfl rfl (pc2 := 136) ?_
          have b48 := GI.b g18 23 x15.toNat kd23 (lo := (-2147483648)) (hi := 2147483647) rfl
          refine wp_iald (n := 6) (e := (τ17.1 23 x15.toNat)) jF_69_136 kd23 (by decide) rfl rfl (by omega) (by omega) rfl rfl (pc2 := 137) ?_
          refine wp_z_lt jF_69_137 (m_rgb b48 rfl) rfl (pc2 := 140) ?_ ?_
          · intro h49
            refine wp_inc (lv2 := [(0, .ref 20), (1, iV (x15 + 1))]) jF_69_173 rfl rfl rfl rfl (pc2 := 176) ?_
            refine wp_go jF_69_176 ?_
            exact ih22 ((x15 + 1)) τ17 ⟨⟨by omega, by omega⟩, g18, f19, (by omega), (by omega)⟩ (by show Int.toNat (6 - (x15 + 1)) < Int.toNat (6 - x15); omega)
          · intro h49
            refine wp_al1 jF_69_140 rfl rfl (pc2 := 141) ?_
            refine wp_gr (b := 23) jF_69_141 kd20 (by decide) (c := 6) rfl rfl rfl (pc2 := 144) ?_
            refine wp_il1 jF_69_144 rfl rfl (pc2 := 145) ?_
            refine wp_iald (n := 6) (e := (τ17.1 23 x15.toNat)) jF_69_145 kd23 (by decide) rfl rfl (by omega) (by omega) rfl rfl (pc2 := 146) ?_
            refine wp_bi jF_69_146 (by decide) rfl (pc2 := 148) ?_
            refine wp_il1 jF_69_148 rfl rfl (pc2 := 149) ?_
            refine wp_add jF_69_149 rfl (pc2 := 150) ?_
            refine wp_i_ge jF_69_150 (m_rgb b48 rfl) ⟨by omega, by omega⟩ rfl (pc2 := 153) ?_ ?_
            · intro h50
              refine wp_inc (lv2 := [(0, .ref 20), (1, iV (x15 + 1))]) jF_69_173 rfl rfl rfl rfl (pc2 := 176) ?_
              refine wp_go jF_69_176 ?_
              exact ih22 ((x15 + 1)) τ17 ⟨⟨by omega, by omega⟩, g18, f19, (by omega), (by omega)⟩ (by show Int.toNat (6 - (x15 + 1)) < Int.toNat (6 - x15); omega)
            · intro h50
              refine wp_al1 jF_69_153 rfl rfl (pc2 := 154) ?_
              refine wp_gr (b := 26) jF_69_154 kd20 (by decide) (c := 9) rfl rfl rfl (pc2 := 157) ?_
              refine wp_bi jF_69_157 (by decide) rfl (pc2 := 159) ?_
              refine wp_il1 jF_69_159 rfl rfl (pc2 := 160) ?_
              refine wp_add jF_69_160 rfl (pc2 := 161) ?_
              refine wp_al1 jF_69_161 rfl rfl (pc2 := 162) ?_
              refine wp_gr (b := 26) jF_69_162 kd20 (by decide) (c := 9) rfl rfl rfl (pc2 := 165) ?_
              refine wp_al1 jF_69_165 rfl rfl (pc2 := 166) ?_
              refine wp_gr (b := 23) jF_69_166 kd20 (by decide) (c := 6) rfl rfl rfl (pc2 := 169) ?_
              refine wp_il1 jF_69_169 rfl rfl (pc2 := 170) ?_
              refine wp_iald (n := 6) (e := (τ17.1 23 x15.toNat)) jF_69_170 kd23 (by decide) rfl rfl (by omega) (by omega) rfl rfl (pc2 := 171) ?_
              refine wp_lald (n := 18) jF_69_171 kd26 (by decide) rfl rfl (by omega) (by omega) rfl (pc2 := 172) ?_
              intro y51
              refine wp_last (n := 18) jF_69_172 kd26 (by decide) rfl rfl (by omega) (by omega) rfl (pc2 := 173) g18 ?_
              intro τ52 g53 f54
              refine wp_inc (lv2 := [(0, .ref 20), (1, iV (x15 + 1))]) jF_69_173 rfl rfl rfl rfl (pc2 := 176) ?_
              refine wp_go jF_69_176 ?_
              have q55 : (τ52.1 33 5) = (τ17.1 33 5) := (FRw.na f54 (by decide))
              have q56 : (τ52.1 39 5) = (τ17.1 39 5) := (FRw.na f54 (by decide))
              exact ih22 ((x15 + 1)) τ52 ⟨⟨by omega, by omega⟩, g53, (FR.w f19 f54 rfl), (by omega), (by omega)⟩ (by show Int.toNat (6 - (x15 + 1)) < Int.toNat (6 - x15); omega)
    · intro h14
      refine wp_ic jF_69_12 rfl (pc2 := 13) ?_
      refine wp_is1 (lv2 := [(0, .ref 20), (1, iV x3), (2, iV 0)]) jF_69_13 rfl rfl rfl (pc2 := 14) ?_
      refine wp_loop (α := Int) (fun a => [(0, .ref 20), (1, iV x3), (2, iV (a))]) (fun a τ => (0 ≤ a ∧ a ≤ 4) ∧ GI τ ∧ FR WG20 τ5 τ ∧ ((τ.1 33 5) = (τ5.1 33 5)) ∧ ((τ.1 39 5) = (τ5.1 39 5))) (fun a τ => Int.toNat (4 - (a))) (0) τ5 ?_ ?_
      · skip
        exact ⟨⟨by omega, by omega⟩, g6, FR.rf, (by omega), (by omega)⟩
      · rintro x57 τ59 ⟨h58, g60, f61, p62, p63⟩ ih64
        have b65 := GI.b g60 33 5 kd33 (lo := 0) (hi := 16) rfl
        have b66 := GI.b g60 39 5 kd39 (lo := 0) (hi := 16) rfl
        show WP 69 14 [(0, .ref 20), (1, iV x3), (2, iV x57)] [] _ _ _ _
        show WP 69 14 [(0, .ref 20), (1, iV x3), (2, iV x57)] [] _ _ _ _
        refine wp_il1 jF_69_14 rfl rfl (pc2 := 15) ?_
        refine wp_al1 jF_69_15 rfl rfl (pc2 := 16) ?_
        refine wp_gr (b := 22) jF_69_16 kd20 (by decide) (c := 5) rfl rfl rfl (pc2 := 19) ?_
        refine wp_ic jF_69_19 rfl (pc2 := 20) ?_
        have b67 := GI.b g60 22 1 kd22 (lo := 0) (hi := 4) rfl
        refine wp_iald (n := 3) (e := (τ59.1 22 1)) jF_69_20 kd22 (by decide) rfl rfl (by omega) (by omega) rfl rfl (pc2 := 21) ?_
        refine wp_i_ge jF_69_21 (m_rgb h58 rfl) (m_rgb b67 rfl) rfl (pc2 := 24) ?_ ?_
        · intro h68
          refine wp_inc (lv2 := [(0, .ref 20), (1, iV (x3 + 1)), (2, iV x57)]) jF_69_115 rfl rfl rfl rfl (pc2 := 118) ?_
          refine wp_go jF_69_118 ?_
          refine wp_less [0, 1] (lv2 := [(0, .ref 20), (1, iV (x3 + 1))]) rfl rfl ?_
          exact ih10 ((x3 + 1)) τ59 ⟨⟨by omega, by omega⟩, g60, (FR.up f7 f61 sb_WG20_WG20), (by omega), (by omega)⟩ (by show Int.toNat (4 - (x3 + 1)) < Int.toNat (4 - x3); omega)
        · intro h68
          refine wp_ic jF_69_24 rfl (pc2 := 25) ?_
          refine wp_is1 (lv2 := [(0, .ref 20), (1, iV x3), (2, iV x57), (3, iV 0)]) jF_69_25 rfl rfl rfl (pc2 := 26) ?_
          refine wp_loop (α := Int) (fun a => [(0, .ref 20), (1, iV x3), (2, iV x57), (3, iV (a))]) (fun a τ => (0 ≤ a ∧ a ≤ 4) ∧ GI τ ∧ FR WG20 τ59 τ ∧ ((τ.1 33 5) = (τ59.1 33 5)) ∧ ((τ.1 39 5) = (τ59.1 39 5))) (fun a τ => Int.toNat (4 - (a))) (0) τ59 ?_ ?_
          · skip
            exact ⟨⟨by omega, by omega⟩, g60, FR.rf, (by omega), (by omega)⟩
          · rintro x69 τ71 ⟨h70, g72, f73, p74, p75⟩ ih76
            have b77 := GI.b g72 33 5 kd33 (lo := 0) (hi := 16) rfl
            have b78 := GI.b g72 39 5 kd39 (lo := 0) (hi := 16) rfl
            show WP 69 26 [(0, .ref 20), (1, iV x3), (2, iV x57), (3, iV x69)] [] _ _ _ _
            show WP 69 26 [(0, .ref 20), (1, iV x3), (2, iV x57), (3, iV x69)] [] _ _ _ _
            refine wp_il1 jF_69_26 rfl rfl (pc2 := 27) ?_
            refine wp_al1 jF_69_27 rfl rfl (pc2 := 28) ?_
            refine wp_gr (b := 22) jF_69_28 kd20 (by decide) (c := 5) rfl rfl rfl (pc2 := 31) ?_
            refine wp_ic jF_69_31 rfl (pc2 := 32) ?_
            have b79 := GI.b g72 22 0 kd22 (lo := 0) (hi := 4) rfl
            refine wp_iald (n := 3) (e := (τ71.1 22 0)) jF_69_32 kd22 (by decide) rfl rfl (by omega) (by omega) rfl rfl (pc2 := 33) ?_
            refine wp_i_ge jF_69_33 (m_rgb h70 rfl) (m_rgb b79 rfl) rfl (pc2 := 36) ?_ ?_
            · intro h80
              refine wp_inc (lv2 := [(0, .ref 20), (1, iV x3), (2, iV (x57 + 1)), (3, iV x69)]) jF_69_109 rfl rfl rfl rfl (pc2 := 112) ?_
              refine wp_go jF_69_112 ?_
              refine wp_less [0, 1, 2] (lv2 := [(0, .ref 20), (1, iV x3), (2, iV (x57 + 1))]) rfl rfl ?_
              exact ih64 ((x57 + 1)) τ71 ⟨⟨by omega, by omega⟩, g72, (FR.up f61 f73 sb_WG20_WG20), (by omega), (by omega)⟩ (by show Int.toNat (4 - (x57 + 1)) < Int.toNat (4 - x57); omega)
            · intro h80
              refine wp_lc jF_69_36 rfl (pc2 := 37) ?_
              refine wp_al1 jF_69_37 rfl rfl (pc2 := 38) ?_
              have b81 := GI.b g72 20 12 kd20 (lo := (-2147483648)) (hi := 2147483647) rfl
              refine wp_gi jF_69_38 kd20 (by decide) rfl rfl rfl (pc2 := 41) ?_
              refine wp_lng (pc2 := 42) jF_69_41 rfl rfl ?_
              intro y82
              refine wp_ls2 (lv2 := [(0, .ref 20), (1, iV x3), (2, iV x57), (3, iV x69), (4, .long y82)]) jF_69_42 rfl rfl rfl (pc2 := 44) ?_
              refine wp_al1 jF_69_44 rfl rfl (pc2 := 45) ?_
              refine wp_gr (b := 26) jF_69_45 kd20 (by decide) (c := 9) rfl rfl rfl (pc2 := 48) ?_
              refine wp_il1 jF_69_48 rfl rfl (pc2 := 49) ?_
              refine wp_du2 jF_69_49 rfl rfl (pc2 := 50) ?_
              refine wp_lald (n := 18) jF_69_50 kd26 (by decide) rfl rfl (by omega) (by omega) rfl (pc2 := 51) ?_
              intro y83
              refine wp_ll2 jF_69_51 rfl rfl (pc2 := 53) ?_
              refine wp_lng (pc2 := 54) jF_69_53 rfl rfl ?_
              intro y84
              refine wp_last (n := 18) jF_69_54 kd26 (by decide) rfl rfl (by omega) (by omega) rfl (pc2 := 55) g72 ?_
              intro τ85 g86 f87
              refine wp_al1 jF_69_55 rfl rfl (pc2 := 56) ?_
              refine wp_gr (b := 26) jF_69_56 kd20 (by decide) (c := 9) rfl rfl rfl (pc2 := 59) ?_
              refine wp_ic jF_69_59 rfl (pc2 := 60) ?_
              refine wp_il1 jF_69_60 rfl rfl (pc2 := 61) ?_
              refine wp_add jF_69_61 rfl (pc2 := 62) ?_
              refine wp_du2 jF_69_62 rfl rfl (pc2 := 63) ?_
              refine wp_lald (n := 18) jF_69_63 kd26 (by decide) rfl rfl (by omega) (by omega) rfl (pc2 := 64) ?_
              intro y88
              refine wp_ll2 jF_69_64 rfl rfl (pc2 := 66) ?_
              refine wp_lng (pc2 := 67) jF_69_66 rfl rfl ?_
              intro y89
              refine wp_last (n := 18) jF_69_67 kd26 (by decide) rfl rfl (by omega) (by omega) rfl (pc2 := 68) g86 ?_
              intro τ90 g91 f92
              refine wp_al1 jF_69_68 rfl rfl (pc2 := 69) ?_
              refine wp_gr (b := 26) jF_69_69 kd20 (by decide) (c := 9) rfl rfl rfl (pc2 := 72) ?_
              refine wp_bi jF_69_72 (by decide) rfl (pc2 := 74) ?_
              refine wp_il1 jF_69_74 rfl rfl (pc2 := 75) ?_
              refine wp_add jF_69_75 rfl (pc2 := 76) ?_
              refine wp_du2 jF_69_76 rfl rfl (pc2 := 77) ?_
              refine wp_lald (n := 18) jF_69_77 kd26 (by decide) rfl rfl (by omega) (by omega) rfl (pc2 := 78) ?_
              intro y93
              refine wp_ll2 jF_69_78 rfl rfl (pc2 := 80) ?_
              refine wp_lng (pc2 := 81) jF_69_80 rfl rfl ?_
              intro y94
              refine wp_last (n := 18) jF_69_81 kd26 (by decide) rfl rfl (by omega) (by omega) rfl (pc2 := 82) g91 ?_
              intro τ95 g96 f97
              refine wp_al1 jF_69_82 rfl rfl (pc2 := 83) ?_
              refine wp_dup jF_69_83 rfl rfl (pc2 := 84) ?_
              refine wp_glA jF_69_84 kd20 (by decide) rfl rfl (pc2 := 87) ?_
              intro y98
              refine wp_ll2 jF_69_87 rfl rfl (pc2 := 89) ?_
              refine wp_lng (pc2 := 90) jF_69_89 rfl rfl ?_
              intro y99
              refine wp_pl jF_69_90 kd20 (by decide) rfl rfl (pc2 := 93) g96 ?_
              intro τ100 g101 f102
              refine wp_al1 jF_69_93 rfl rfl (pc2 := 94) ?_
              refine wp_dup jF_69_94 rfl rfl (pc2 := 95) ?_
              refine wp_gi jF_69_95 kd20 (by decide) rfl ((FRw.nj f102 (by decide)).trans ((FRw.na f97 (by decide)).trans ((FRw.na f92 (by decide)).trans (FRw.na f87 (by decide))))) rfl (pc2 := 98) ?_
              refine wp_ic jF_69_98 rfl (pc2 := 99) ?_
              refine wp_any2 (pc2 := 100) jF_69_99 rfl rfl ?_
              intro z103 h104
              refine wp_pi jF_69_100 kd20 (by decide) rfl rfl rfl (pc2 := 103) g101 (lo := (-2147483648)) (hi := 2147483647) rfl (by omega) (by omega) ?_
              intro τ105 g106 f107 e108
              refine wp_inc (lv2 := [(0, .ref 20), (1, iV x3), (2, iV x57), (3, iV (x69 + 1)), (4, .long y82)]) jF_69_103 rfl rfl rfl rfl (pc2 := 106) ?_
              refine wp_go jF_69_106 ?_
              have q109 : (τ105.1 33 5) = (τ71.1 33 5) := ((FRw.na f107 (by decide)).trans ((FRw.na f102 (by decide)).trans ((FRw.na f97 (by decide)).trans ((FRw.na f92 (by decide)).trans (FRw.na f87 (by decide))))))
              have q110 : (τ105.1 39 5) = (τ71.1 39 5) := ((FRw.na f107 (by decide)).trans ((FRw.na f102 (by decide)).trans ((FRw.na f97 (by decide)).trans ((FRw.na f92 (by decide)).trans (FRw.na f87 (by decide))))))
              refine wp_less [0, 1, 2, 3] (lv2 := [(0, .ref 20), (1, iV x3), (2, iV x57), (3, iV (x69 + 1))]) rfl rfl ?_
              exact ih76 ((x69 + 1)) τ105 ⟨⟨by omega, by omega⟩, g106, (FR.w (FR.w (FR.w (FR.w (FR.w f73 f87 rfl) f92 rfl) f97 rfl) f102 rfl) f107 rfl), (by omega), (by omega)⟩ (by show Int.toNat (4 - (x69 + 1)) < Int.toNat (4 - x69); omega)
set_option maxHeartbeats 4000000 in
set_option maxRecDepth 20000 in
/-- Tongue.letterOf -/
theorem m_93_r20 (σ : jM) (hg : GI σ) (sg : Int) (hl_sg : (-2147483648) ≤ sg) (hu_sg : sg ≤ 2147483647) (k : Int) (hl_k : (-2147483648) ≤ k) (hu_k : k ≤ 2147483647)  (fr lo : Nat) (hfr : 0 ≤ fr) (hlo : 0 ≤ lo) : WP 93 0 (lv_args 0 [.ref 20, iV sg, iV k]) [] fr lo σ (fun v τ => ∃ z : Int, v = some (iV z) ∧ ((-2147483648) ≤ z ∧ z ≤ 2147483647) ∧ σ = τ) := by
  show WP 93 0 [(0, .ref 20), (1, iV sg), (2, iV k)] [] _ _ _ _
  refine wp_il1 jF_93_0 rfl rfl (pc2 := 1) ?_
  refine wp_z_lt jF_93_1 ⟨by omega, by omega⟩ rfl (pc2 := 4) ?_ ?_
  · intro h1
    refine wp_ic jF_93_32 rfl (pc2 := 33) ?_
    refine wp_ri jF_93_33 rfl ?_
    exact ⟨(-1), rfl, ⟨by omega, by omega⟩, rfl⟩
  · intro h1
    refine wp_il1 jF_93_4 rfl rfl (pc2 := 5) ?_
    refine wp_al1 jF_93_5 rfl rfl (pc2 := 6) ?_
    refine wp_gr (b := 21) jF_93_6 kd20 (by decide) (c := 4) rfl rfl rfl (pc2 := 9) ?_
    refine wp_len (n := 25) (t := 0) jF_93_9 kd21 (by decide) rfl rfl (pc2 := 10) ?_
    refine wp_i_ge jF_93_10 ⟨by omega, by omega⟩ (m_rgl rfl) rfl (pc2 := 13) ?_ ?_
    · intro h2
      refine wp_ic jF_93_32 rfl (pc2 := 33) ?_
      refine wp_ri jF_93_33 rfl ?_
      exact ⟨(-1), rfl, ⟨by omega, by omega⟩, rfl⟩
    · intro h2
      refine wp_il1 jF_93_13 rfl rfl (pc2 := 14) ?_
      refine wp_z_lt jF_93_14 ⟨by omega, by omega⟩ rfl (pc2 := 17) ?_ ?_
      · intro h3
        refine wp_ic jF_93_32 rfl (pc2 := 33) ?_
        refine wp_ri jF_93_33 rfl ?_
        exact ⟨(-1), rfl, ⟨by omega, by omega⟩, rfl⟩
      · intro h3
        refine wp_il1 jF_93_17 rfl rfl (pc2 := 18) ?_
        refine wp_bi jF_93_18 (by decide) rfl (pc2 := 20) ?_
        refine wp_i_ge jF_93_20 ⟨by omega, by omega⟩ (m_rgl rfl) rfl (pc2 := 23) ?_ ?_
        · intro h4
          refine wp_ic jF_93_32 rfl (pc2 := 33) ?_
          refine wp_ri jF_93_33 rfl ?_
          exact ⟨(-1), rfl, ⟨by omega, by omega⟩, rfl⟩
        · intro h4
          refine wp_al1 jF_93_23 rfl rfl (pc2 := 24) ?_
          refine wp_gr (b := 21) jF_93_24 kd20 (by decide) (c := 4) rfl rfl rfl (pc2 := 27) ?_
          refine wp_il1 jF_93_27 rfl rfl (pc2 := 28) ?_
          have b5 := GI.b hg 21 sg.toNat kd21 (lo := (-2147483648)) (hi := 2147483647) rfl
          refine wp_iald (n := 25) (e := (σ.1 21 sg.toNat)) jF_93_28 kd21 (by decide) rfl rfl (by omega) (by omega) rfl rfl (pc2 := 29) ?_
          refine wp_z_ne jF_93_29 (m_rgb b5 rfl) rfl (pc2 := 32) ?_ ?_
          · intro h6
            refine wp_al1 jF_93_34 rfl rfl (pc2 := 35) ?_
            refine wp_gr (b := 21) jF_93_35 kd20 (by decide) (c := 4) rfl rfl rfl (pc2 := 38) ?_
            refine wp_il1 jF_93_38 rfl rfl (pc2 := 39) ?_
            refine wp_iald (n := 25) (e := (σ.1 21 sg.toNat)) jF_93_39 kd21 (by decide) rfl rfl (by omega) (by omega) rfl rfl (pc2 := 40) ?_
            refine wp_bi jF_93_40 (by decide) rfl (pc2 := 42) ?_
            refine wp_ic jF_93_42 rfl (pc2 := 43) ?_
            refine wp_il1 jF_93_43 rfl rfl (pc2 := 44) ?_
            refine wp_mul jF_93_44 rfl (pc2 := 45) ?_
            refine wp_sub jF_93_45 rfl (pc2 := 46) ?_
            refine wp_any2 (pc2 := 47) jF_93_46 rfl rfl ?_
            intro z7 h8
            refine wp_bi jF_93_47 (by decide) rfl (pc2 := 49) ?_
            refine wp_andl jF_93_49 rfl rfl (pc2 := 50) ?_
            intro z9 h10
            refine wp_ri jF_93_50 rfl ?_
            exact ⟨z9, rfl, ⟨by omega, by omega⟩, rfl⟩
          · intro h6
            refine wp_ic jF_93_32 rfl (pc2 := 33) ?_
            refine wp_ri jF_93_33 rfl ?_
            exact ⟨(-1), rfl, ⟨by omega, by omega⟩, rfl⟩
set_option maxHeartbeats 4000000 in
set_option maxRecDepth 20000 in
/-- Tongue.hasSign -/
theorem m_108_r20 (σ : jM) (hg : GI σ) (sg : Int) (hl_sg : (-2147483648) ≤ sg) (hu_sg : sg ≤ 2147483647)  (fr lo : Nat) (hfr : 0 ≤ fr) (hlo : 0 ≤ lo) : WP 108 0 (lv_args 0 [.ref 20, iV sg]) [] fr lo σ (fun v τ => ∃ z : Int, v = some (iV z) ∧ (0 ≤ z ∧ z ≤ 1) ∧ σ = τ) := by
  show WP 108 0 [(0, .ref 20), (1, iV sg)] [] _ _ _ _
  refine wp_il1 jF_108_0 rfl rfl (pc2 := 1) ?_
  refine wp_z_lt jF_108_1 ⟨by omega, by omega⟩ rfl (pc2 := 4) ?_ ?_
  · intro h1
    refine wp_ic jF_108_29 rfl (pc2 := 30) ?_
    refine wp_ri jF_108_30 rfl ?_
    exact ⟨0, rfl, ⟨by omega, by omega⟩, rfl⟩
  · intro h1
    refine wp_il1 jF_108_4 rfl rfl (pc2 := 5) ?_
    refine wp_bi jF_108_5 (by decide) rfl (pc2 := 7) ?_
    refine wp_i_ge jF_108_7 ⟨by omega, by omega⟩ (m_rgl rfl) rfl (pc2 := 10) ?_ ?_
    · intro h2
      refine wp_ic jF_108_29 rfl (pc2 := 30) ?_
      refine wp_ri jF_108_30 rfl ?_
      exact ⟨0, rfl, ⟨by omega, by omega⟩, rfl⟩
    · intro h2
      refine wp_il1 jF_108_10 rfl rfl (pc2 := 11) ?_
      refine wp_bi jF_108_11 (by decide) rfl (pc2 := 13) ?_
      refine wp_i_ge jF_108_13 ⟨by omega, by omega⟩ (m_rgl rfl) rfl (pc2 := 16) ?_ ?_
      · intro h3
        refine wp_ic jF_108_25 rfl (pc2 := 26) ?_
        refine wp_go jF_108_26 ?_
        refine wp_ri jF_108_30 rfl ?_
        exact ⟨1, rfl, ⟨by omega, by omega⟩, rfl⟩
      · intro h3
        refine wp_al1 jF_108_16 rfl rfl (pc2 := 17) ?_
        refine wp_gr (b := 21) jF_108_17 kd20 (by decide) (c := 4) rfl rfl rfl (pc2 := 20) ?_
        refine wp_il1 jF_108_20 rfl rfl (pc2 := 21) ?_
        have b4 := GI.b hg 21 sg.toNat kd21 (lo := (-2147483648)) (hi := 2147483647) rfl
        refine wp_iald (n := 25) (e := (σ.1 21 sg.toNat)) jF_108_21 kd21 (by decide) rfl rfl (by omega) (by omega) rfl rfl (pc2 := 22) ?_
        refine wp_z_eq jF_108_22 (m_rgb b4 rfl) rfl (pc2 := 25) ?_ ?_
        · intro h5
          refine wp_ic jF_108_29 rfl (pc2 := 30) ?_
          refine wp_ri jF_108_30 rfl ?_
          exact ⟨0, rfl, ⟨by omega, by omega⟩, rfl⟩
        · intro h5
          refine wp_ic jF_108_25 rfl (pc2 := 26) ?_
          refine wp_go jF_108_26 ?_
          refine wp_ri jF_108_30 rfl ?_
          exact ⟨1, rfl, ⟨by omega, by omega⟩, rfl⟩
set_option maxHeartbeats 4000000 in
set_option maxRecDepth 20000 in
/-- Tongue.isCase -/
theorem m_100_r20 (σ : jM) (hg : GI σ) (nb : Int) (hl_nb : (-2147483648) ≤ nb) (hu_nb : nb ≤ 2147483647)  (fr lo : Nat) (hfr : 0 ≤ fr) (hlo : 0 ≤ lo) : WP 100 0 (lv_args 0 [.ref 20, iV nb]) [] fr lo σ (fun v τ => ∃ z : Int, v = some (iV z) ∧ (0 ≤ z ∧ z ≤ 1) ∧ σ = τ) := by
  show WP 100 0 [(0, .ref 20), (1, iV nb)] [] _ _ _ _
  refine wp_il1 jF_100_0 rfl rfl (pc2 := 1) ?_
  refine wp_z_lt jF_100_1 ⟨by omega, by omega⟩ rfl (pc2 := 4) ?_ ?_
  · intro h1
    refine wp_ic jF_100_16 rfl (pc2 := 17) ?_
    refine wp_ri jF_100_17 rfl ?_
    exact ⟨0, rfl, ⟨by omega, by omega⟩, rfl⟩
  · intro h1
    refine wp_il1 jF_100_4 rfl rfl (pc2 := 5) ?_
    refine wp_al1 jF_100_5 rfl rfl (pc2 := 6) ?_
    have b2 := GI.b hg 20 12 kd20 (lo := (-2147483648)) (hi := 2147483647) rfl
    refine wp_gi jF_100_6 kd20 (by decide) rfl rfl rfl (pc2 := 9) ?_
    refine wp_i_ge jF_100_9 ⟨by omega, by omega⟩ (m_rgb b2 rfl) rfl (pc2 := 12) ?_ ?_
    · intro h3
      refine wp_ic jF_100_16 rfl (pc2 := 17) ?_
      refine wp_ri jF_100_17 rfl ?_
      exact ⟨0, rfl, ⟨by omega, by omega⟩, rfl⟩
    · intro h3
      refine wp_ic jF_100_12 rfl (pc2 := 13) ?_
      refine wp_go jF_100_13 ?_
      refine wp_ri jF_100_17 rfl ?_
      exact ⟨1, rfl, ⟨by omega, by omega⟩, rfl⟩
set_option maxHeartbeats 4000000 in
set_option maxRecDepth 20000 in
/-- Tongue.keepsPeace -/
theorem m_85_r20 (σ : jM) (hg : GI σ) (fb : Int64)  (fr lo : Nat) (hfr : 1 ≤ fr) (hlo : 22 ≤ lo) : WP 85 0 (lv_args 0 [.ref 20, .long fb]) [] fr lo σ (fun v τ => ∃ z : Int, v = some (iV z) ∧ (0 ≤ z ∧ z ≤ 1) ∧ σ = τ) := by
  show WP 85 0 [(0, .ref 20), (1, .long fb)] [] _ _ _ _
  refine wp_al1 jF_85_0 rfl rfl (pc2 := 1) ?_
  refine wp_gr (b := 33) jF_85_1 kd20 (by decide) (c := 16) rfl rfl rfl (pc2 := 4) ?_
  refine wp_ll1 jF_85_4 rfl rfl (pc2 := 5) ?_
  refine wp_cV (as := [.long fb]) (rest := []) (a := 33) (mx := 3) (ci := 7) jF_85_5 kd33 (by decide) rfl rfl rfl rfl rfl (by omega) (by omega) rfl (pc2 := 8) ?_
  refine wp_use (m_86_r33 σ hg fb  _ _ (by omega) (by omega)) ?_
  rintro _ _ ⟨z3, rfl, h4, rfl⟩
  show WP 85 8 [(0, .ref 20), (1, .long fb)] [iV z3] _ _ _ _
  refine wp_ri jF_85_8 (m_fitb (by omega) (by omega)) ?_
  exact ⟨z3, rfl, ⟨by omega, by omega⟩, rfl⟩
set_option maxHeartbeats 4000000 in
set_option maxRecDepth 20000 in
/-- Tongue.worthFor -/
theorem m_155_r20 (σ : jM) (hg : GI σ) (pt : Int) (hl_pt : (-2147483648) ≤ pt) (hu_pt : pt ≤ 2147483647) (fb : Int64)  (fr lo : Nat) (hfr : 2 ≤ fr) (hlo : 46 ≤ lo) : WP 155 0 (lv_args 0 [.ref 20, iV pt, .long fb]) [] fr lo σ (fun v τ => ∃ z : Int, v = some (iV z) ∧ ((-2147483648) ≤ z ∧ z ≤ 2147483647) ∧ σ = τ) := by
  show WP 155 0 [(0, .ref 20), (1, iV pt), (2, .long fb)] [] _ _ _ _
  refine wp_il1 jF_155_0 rfl rfl (pc2 := 1) ?_
  refine wp_z_lt jF_155_1 ⟨by omega, by omega⟩ rfl (pc2 := 4) ?_ ?_
  · intro h1
    refine wp_ic jF_155_12 rfl (pc2 := 13) ?_
    refine wp_ri jF_155_13 rfl ?_
    exact ⟨(-1), rfl, ⟨by omega, by omega⟩, rfl⟩
  · intro h1
    refine wp_il1 jF_155_4 rfl rfl (pc2 := 5) ?_
    refine wp_al1 jF_155_5 rfl rfl (pc2 := 6) ?_
    have b2 := GI.b hg 20 11 kd20 (lo := 0) (hi := 5) rfl
    refine wp_gi jF_155_6 kd20 (by decide) rfl rfl rfl (pc2 := 9) ?_
    refine wp_i_lt jF_155_9 ⟨by omega, by omega⟩ (m_rgb b2 rfl) rfl (pc2 := 12) ?_ ?_
    · intro h3
      refine wp_ic jF_155_14 rfl (pc2 := 15) ?_
      refine wp_is2 (lv2 := [(0, .ref 20), (1, iV pt), (2, .long fb), (4, iV 0)]) jF_155_15 rfl rfl rfl (pc2 := 17) ?_
      refine wp_ic jF_155_17 rfl (pc2 := 18) ?_
      refine wp_is2 (lv2 := [(0, .ref 20), (1, iV pt), (2, .long fb), (4, iV 0), (5, iV 0)]) jF_155_18 rfl rfl rfl (pc2 := 20) ?_
      refine wp_loop (α := Int × Int) (fun a => [(0, .ref 20), (1, iV pt), (2, .long fb), (4, iV (a.1)), (5, iV (a.2))]) (fun a τ => ((-2147483648) ≤ a.1 ∧ a.1 ≤ 2147483647) ∧ (0 ≤ a.2 ∧ a.2 ≤ 16) ∧ σ = τ) (fun a τ => Int.toNat (16 - (a.2))) (0, 0) σ ?_ ?_
      · skip
        exact ⟨⟨by (try dsimp only); omega, by (try dsimp only); omega⟩, ⟨by (try dsimp only); omega, by (try dsimp only); omega⟩, rfl⟩
      · rintro ⟨x4, x5⟩ _ ⟨h6, h7, rfl⟩ ih11
        try dsimp only at h6 h7
        show WP 155 20 [(0, .ref 20), (1, iV pt), (2, .long fb), (4, iV x4), (5, iV x5)] [] _ _ _ _
        show WP 155 20 [(0, .ref 20), (1, iV pt), (2, .long fb), (4, iV x4), (5, iV x5)] [] _ _ _ _
        refine wp_il2 jF_155_20 rfl rfl (pc2 := 22) ?_
        refine wp_al1 jF_155_22 rfl rfl (pc2 := 23) ?_
        refine wp_gr (b := 27) jF_155_23 kd20 (by decide) (c := 10) rfl rfl rfl (pc2 := 26) ?_
        have b12 := GI.b hg 27 5 kd27 (lo := 0) (hi := 16) rfl
        refine wp_gi jF_155_26 kd27 (by decide) rfl rfl rfl (pc2 := 29) ?_
        refine wp_i_ge jF_155_29 (m_rgb h7 rfl) (m_rgb b12 rfl) rfl (pc2 := 32) ?_ ?_
        · intro h13
          refine wp_il2 jF_155_67 rfl rfl (pc2 := 69) ?_
          refine wp_ri jF_155_69 rfl ?_
          exact ⟨x4, rfl, ⟨by omega, by omega⟩, rfl⟩
        · intro h13
          refine wp_al1 jF_155_32 rfl rfl (pc2 := 33) ?_
          refine wp_gr (b := 27) jF_155_33 kd20 (by decide) (c := 10) rfl rfl rfl (pc2 := 36) ?_
          refine wp_gr (b := 30) jF_155_36 kd27 (by decide) (c := 6) rfl rfl rfl (pc2 := 39) ?_
          refine wp_il2 jF_155_39 rfl rfl (pc2 := 41) ?_
          have b14 := GI.b hg 30 x5.toNat kd30 (lo := (-2147483648)) (hi := 2147483647) rfl
          refine wp_iald (n := 16) (e := (σ.1 30 x5.toNat)) jF_155_41 kd30 (by decide) rfl rfl (by omega) (by omega) rfl rfl (pc2 := 42) ?_
          refine wp_il1 jF_155_42 rfl rfl (pc2 := 43) ?_
          refine wp_i_ne jF_155_43 (m_rgb b14 rfl) ⟨by omega, by omega⟩ rfl (pc2 := 46) ?_ ?_
          · intro h15
            refine wp_inc (lv2 := [(0, .ref 20), (1, iV pt), (2, .long fb), (4, iV x4), (5, iV (x5 + 1))]) jF_155_61 rfl rfl rfl rfl (pc2 := 64) ?_
            refine wp_go jF_155_64 ?_
            exact ih11 (x4, (x5 + 1)) σ ⟨⟨by (try dsimp only); omega, by (try dsimp only); omega⟩, ⟨by (try dsimp only); omega, by (try dsimp only); omega⟩, rfl⟩ (by show Int.toNat (16 - (x5 + 1)) < Int.toNat (16 - x5); omega)
          · intro h15
            refine wp_il2 jF_155_46 rfl rfl (pc2 := 48) ?_
            refine wp_al1 jF_155_48 rfl rfl (pc2 := 49) ?_
            refine wp_gr (b := 27) jF_155_49 kd20 (by decide) (c := 10) rfl rfl rfl (pc2 := 52) ?_
            refine wp_il2 jF_155_52 rfl rfl (pc2 := 54) ?_
            refine wp_ll1 jF_155_54 rfl rfl (pc2 := 55) ?_
            refine wp_cV (as := [iV x5, .long fb]) (rest := [iV x4]) (a := 27) (mx := 6) (ci := 7) jF_155_55 kd27 (by decide) rfl rfl rfl rfl rfl (by omega) (by omega) rfl (pc2 := 58) ?_
            refine wp_use (m_156_r27 σ hg x5 (by omega) (by omega) fb  _ _ (by omega) (by omega)) ?_
            rintro _ _ ⟨z18, rfl, h19, rfl⟩
            show WP 155 58 [(0, .ref 20), (1, iV pt), (2, .long fb), (4, iV x4), (5, iV x5)] [iV z18, iV x4] _ _ _ _
            refine wp_any2 (pc2 := 59) jF_155_58 rfl rfl ?_
            intro z20 h21
            refine wp_is2 (lv2 := [(0, .ref 20), (1, iV pt), (2, .long fb), (4, iV z20), (5, iV x5)]) jF_155_59 rfl rfl rfl (pc2 := 61) ?_
            refine wp_inc (lv2 := [(0, .ref 20), (1, iV pt), (2, .long fb), (4, iV z20), (5, iV (x5 + 1))]) jF_155_61 rfl rfl rfl rfl (pc2 := 64) ?_
            refine wp_go jF_155_64 ?_
            exact ih11 (z20, (x5 + 1)) σ ⟨⟨by (try dsimp only); omega, by (try dsimp only); omega⟩, ⟨by (try dsimp only); omega, by (try dsimp only); omega⟩, rfl⟩ (by show Int.toNat (16 - (x5 + 1)) < Int.toNat (16 - x5); omega)
    · intro h3
      refine wp_ic jF_155_12 rfl (pc2 := 13) ?_
      refine wp_ri jF_155_13 rfl ?_
      exact ⟨(-1), rfl, ⟨by omega, by omega⟩, rfl⟩
