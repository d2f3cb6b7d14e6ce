set_option maxHeartbeats 4000000 in
set_option maxRecDepth 20000 in
/-- Acts.forget -/
theorem m_72_r90 (σ : jM) (hg : GI σ)   (fr lo : Nat) (hfr : 0 ≤ fr) (hlo : 0 ≤ lo) : WP 72 0 (lv_args 0 [.ref 90]) [] fr lo σ (fun v τ => v = none ∧ GI τ ∧ FR Wac σ τ) := by
  show WP 72 0 [(0, .ref 90)] [] _ _ _ _
  refine wp_al1 jF_72_0 rfl rfl (pc2 := 1) ?_
  refine wp_ic jF_72_1 rfl (pc2 := 2) ?_
  refine wp_pi jF_72_2 kd90 (by decide) rfl rfl rfl (pc2 := 5) hg (lo := 0) (hi := 20) rfl (by omega) (by omega) ?_
  intro τ1 g2 f3 e4
  refine wp_rv jF_72_5 ?_
  exact ⟨rfl, g2, (FR.w FR.rf f3 rfl)⟩
set_option maxHeartbeats 4000000 in
set_option maxRecDepth 20000 in
/-- Acts.keep -/
theorem m_88_r90_70 (σ : jM) (hg : GI σ)   (fr lo : Nat) (hfr : 1 ≤ fr) (hlo : 80 ≤ lo) : WP 88 0 (lv_args 0 [.ref 90, .ref 70]) [] fr lo σ (fun v τ => v = none ∧ GI τ ∧ FR Wac σ τ) := by
  show WP 88 0 [(0, .ref 90), (1, .ref 70)] [] _ _ _ _
  refine wp_al1 jF_88_0 rfl rfl (pc2 := 1) ?_
  refine wp_al1 jF_88_1 rfl rfl (pc2 := 2) ?_
  have b1 := GI.b hg 90 2 kd90 (lo := 0) (hi := 19) rfl
  refine wp_gi jF_88_2 kd90 (by decide) rfl rfl rfl (pc2 := 5) ?_
  refine wp_ic jF_88_5 rfl (pc2 := 6) ?_
  refine wp_add jF_88_6 rfl (pc2 := 7) ?_
  refine wp_bi jF_88_7 (by decide) rfl (pc2 := 9) ?_
  refine wp_rem jF_88_9 ⟨by omega, by omega⟩ (by omega) (m_rgl rfl) (by omega) rfl (pc2 := 10) ?_
  refine wp_pi jF_88_10 kd90 (by decide) rfl rfl rfl (pc2 := 13) hg (lo := 0) (hi := 19) rfl (by omega) (by omega) ?_
  intro τ2 g3 f4 e5
  refine wp_al1 jF_88_13 rfl rfl (pc2 := 14) ?_
  refine wp_gr (b := 92) jF_88_14 kd90 (by decide) (c := 192) rfl rfl rfl (pc2 := 17) ?_
  refine wp_al1 jF_88_17 rfl rfl (pc2 := 18) ?_
  refine wp_gi jF_88_18 kd90 (by decide) rfl e5 rfl (pc2 := 21) ?_
  refine wp_al1 jF_88_21 rfl rfl (pc2 := 22) ?_
  have b6 := GI.b hg 70 1 kd70 (lo := 0) (hi := 60) rfl
  refine wp_gi jF_88_22 kd70 (by decide) rfl (FRw.na f4 (by decide)) rfl (pc2 := 25) ?_
  refine wp_iast (n := 20) jF_88_25 kd92 (by decide) rfl rfl (by omega) (by omega) rfl (pc2 := 26) g3 (lo := 0) (hi := 60) rfl (by omega) (by omega) ?_
  intro τ7 g8 f9 e10
  refine wp_al1 jF_88_26 rfl rfl (pc2 := 27) ?_
  refine wp_gr (b := 71) jF_88_27 kd70 (by decide) (c := 4) rfl rfl rfl (pc2 := 30) ?_
  refine wp_ic jF_88_30 rfl (pc2 := 31) ?_
  refine wp_al1 jF_88_31 rfl rfl (pc2 := 32) ?_
  refine wp_gr (b := 91) jF_88_32 kd90 (by decide) (c := 191) rfl rfl rfl (pc2 := 35) ?_
  refine wp_al1 jF_88_35 rfl rfl (pc2 := 36) ?_
  refine wp_gi jF_88_36 kd90 (by decide) rfl ((FRw.na f9 (by decide)).trans e5) rfl (pc2 := 39) ?_
  refine wp_bi jF_88_39 (by decide) rfl (pc2 := 41) ?_
  refine wp_mul jF_88_41 rfl (pc2 := 42) ?_
  refine wp_al1 jF_88_42 rfl rfl (pc2 := 43) ?_
  refine wp_gi jF_88_43 kd70 (by decide) rfl ((FRw.na f9 (by decide)).trans (FRw.na f4 (by decide))) rfl (pc2 := 46) ?_
  refine wp_acopy (W := Wc91) (n0 := 60) (n1 := 1200) (lo0 := 0) (hi0 := 255) (lo1 := 0) (hi1 := 255) jF_88_46 kd71 (by decide) rfl kd91 (by decide) rfl rfl (fun _ => rfl) (fun _ => rfl) (by decide) (by decide) (fun _ => rfl) (by omega) (by omega) (by omega) (by omega) (by omega) (by omega) (by show 45 ≤ _; omega) rfl (pc2 := 49) g8 ?_
  intro τ11 g12 f13
  show WP 88 49 [(0, .ref 90), (1, .ref 70)] [] _ _ _ _
  refine wp_al1 jF_88_49 rfl rfl (pc2 := 50) ?_
  have b14 := GI.b hg 90 3 kd90 (lo := 0) (hi := 20) rfl
  refine wp_gi jF_88_50 kd90 (by decide) rfl ((FR.at f13 90 3 rfl).trans ((FRw.na f9 (by decide)).trans (FRw.nj f4 (by decide)))) rfl (pc2 := 53) ?_
  refine wp_bi jF_88_53 (by decide) rfl (pc2 := 55) ?_
  refine wp_i_ge jF_88_55 (m_rgb b14 rfl) (m_rgl rfl) rfl (pc2 := 58) ?_ ?_
  · intro h15
    refine wp_rv jF_88_68 ?_
    exact ⟨rfl, g12, (FR.up (FR.w (FR.w FR.rf f4 rfl) f9 rfl) f13 sb_Wc91_Wac)⟩
  · intro h15
    refine wp_al1 jF_88_58 rfl rfl (pc2 := 59) ?_
    refine wp_dup jF_88_59 rfl rfl (pc2 := 60) ?_
    refine wp_gi jF_88_60 kd90 (by decide) rfl ((FR.at f13 90 3 rfl).trans ((FRw.na f9 (by decide)).trans (FRw.nj f4 (by decide)))) rfl (pc2 := 63) ?_
    refine wp_ic jF_88_63 rfl (pc2 := 64) ?_
    refine wp_add jF_88_64 rfl (pc2 := 65) ?_
    refine wp_pi jF_88_65 kd90 (by decide) rfl rfl rfl (pc2 := 68) g12 (lo := 0) (hi := 20) rfl (by omega) (by omega) ?_
    intro τ16 g17 f18 e19
    refine wp_rv jF_88_68 ?_
    exact ⟨rfl, g17, (FR.w (FR.up (FR.w (FR.w FR.rf f4 rfl) f9 rfl) f13 sb_Wc91_Wac) f18 rfl)⟩
set_option maxHeartbeats 4000000 in
set_option maxRecDepth 20000 in
/-- Acts.takeBack -/
theorem m_121_r90_70 (σ : jM) (hg : GI σ)   (fr lo : Nat) (hfr : 1 ≤ fr) (hlo : 80 ≤ lo) : WP 121 0 (lv_args 0 [.ref 90, .ref 70]) [] fr lo σ (fun v τ => v = none ∧ GI τ ∧ FR Wtb σ τ) := by
  show WP 121 0 [(0, .ref 90), (1, .ref 70)] [] _ _ _ _
  refine wp_al1 jF_121_0 rfl rfl (pc2 := 1) ?_
  have b1 := GI.b hg 90 3 kd90 (lo := 0) (hi := 20) rfl
  refine wp_gi jF_121_1 kd90 (by decide) rfl rfl rfl (pc2 := 4) ?_
  refine wp_z_le jF_121_4 (m_rgb b1 rfl) rfl (pc2 := 7) ?_ ?_
  · intro h2
    refine wp_rv jF_121_69 ?_
    exact ⟨rfl, hg, FR.rf⟩
  · intro h2
    refine wp_al1 jF_121_7 rfl rfl (pc2 := 8) ?_
    refine wp_al1 jF_121_8 rfl rfl (pc2 := 9) ?_
    refine wp_gr (b := 92) jF_121_9 kd90 (by decide) (c := 192) rfl rfl rfl (pc2 := 12) ?_
    refine wp_al1 jF_121_12 rfl rfl (pc2 := 13) ?_
    have b3 := GI.b hg 90 2 kd90 (lo := 0) (hi := 19) rfl
    refine wp_gi jF_121_13 kd90 (by decide) rfl rfl rfl (pc2 := 16) ?_
    have b4 := GI.b hg 92 (σ.1 90 2).toNat kd92 (lo := 0) (hi := 60) rfl
    refine wp_iald (n := 20) (e := (σ.1 92 (σ.1 90 2).toNat)) jF_121_16 kd92 (by decide) rfl rfl (by omega) (by omega) rfl rfl (pc2 := 17) ?_
    refine wp_pi jF_121_17 kd70 (by decide) rfl rfl rfl (pc2 := 20) hg (lo := 0) (hi := 60) rfl (by omega) (by omega) ?_
    intro τ5 g6 f7 e8
    refine wp_al1 jF_121_20 rfl rfl (pc2 := 21) ?_
    refine wp_gr (b := 91) jF_121_21 kd90 (by decide) (c := 191) rfl rfl rfl (pc2 := 24) ?_
    refine wp_al1 jF_121_24 rfl rfl (pc2 := 25) ?_
    refine wp_gi jF_121_25 kd90 (by decide) rfl (FRw.na f7 (by decide)) rfl (pc2 := 28) ?_
    refine wp_bi jF_121_28 (by decide) rfl (pc2 := 30) ?_
    refine wp_mul jF_121_30 rfl (pc2 := 31) ?_
    refine wp_al1 jF_121_31 rfl rfl (pc2 := 32) ?_
    refine wp_gr (b := 71) jF_121_32 kd70 (by decide) (c := 4) rfl rfl rfl (pc2 := 35) ?_
    refine wp_ic jF_121_35 rfl (pc2 := 36) ?_
    refine wp_al1 jF_121_36 rfl rfl (pc2 := 37) ?_
    refine wp_gi jF_121_37 kd70 (by decide) rfl e8 rfl (pc2 := 40) ?_
    refine wp_acopy (W := Wc71) (n0 := 1200) (n1 := 60) (lo0 := 0) (hi0 := 255) (lo1 := 0) (hi1 := 255) jF_121_40 kd91 (by decide) rfl kd71 (by decide) rfl rfl (fun _ => rfl) (fun _ => rfl) (by decide) (by decide) (fun _ => rfl) (by omega) (by omega) (by omega) (by omega) (by omega) (by omega) (by show 45 ≤ _; omega) rfl (pc2 := 43) g6 ?_
    intro τ9 g10 f11
    show WP 121 43 [(0, .ref 90), (1, .ref 70)] [] _ _ _ _
    refine wp_al1 jF_121_43 rfl rfl (pc2 := 44) ?_
    refine wp_al1 jF_121_44 rfl rfl (pc2 := 45) ?_
    refine wp_gi jF_121_45 kd90 (by decide) rfl ((FR.at f11 90 2 rfl).trans (FRw.na f7 (by decide))) rfl (pc2 := 48) ?_
    refine wp_bi jF_121_48 (by decide) rfl (pc2 := 50) ?_
    refine wp_add jF_121_50 rfl (pc2 := 51) ?_
    refine wp_ic jF_121_51 rfl (pc2 := 52) ?_
    refine wp_sub jF_121_52 rfl (pc2 := 53) ?_
    refine wp_bi jF_121_53 (by decide) rfl (pc2 := 55) ?_
    refine wp_rem jF_121_55 ⟨by omega, by omega⟩ (by omega) (m_rgl rfl) (by omega) rfl (pc2 := 56) ?_
    refine wp_pi jF_121_56 kd90 (by decide) rfl rfl rfl (pc2 := 59) g10 (lo := 0) (hi := 19) rfl (by omega) (by omega) ?_
    intro τ12 g13 f14 e15
    refine wp_al1 jF_121_59 rfl rfl (pc2 := 60) ?_
    refine wp_dup jF_121_60 rfl rfl (pc2 := 61) ?_
    refine wp_gi jF_121_61 kd90 (by decide) rfl ((FRw.nj f14 (by decide)).trans ((FR.at f11 90 3 rfl).trans (FRw.na f7 (by decide)))) rfl (pc2 := 64) ?_
    refine wp_ic jF_121_64 rfl (pc2 := 65) ?_
    refine wp_sub jF_121_65 rfl (pc2 := 66) ?_
    refine wp_pi jF_121_66 kd90 (by decide) rfl rfl rfl (pc2 := 69) g13 (lo := 0) (hi := 20) rfl (by omega) (by omega) ?_
    intro τ16 g17 f18 e19
    refine wp_rv jF_121_69 ?_
    exact ⟨rfl, g17, (FR.w (FR.w (FR.up (FR.w FR.rf f7 rfl) f11 sb_Wc71_Wtb) f14 rfl) f18 rfl)⟩
set_option maxHeartbeats 4000000 in
set_option maxRecDepth 20000 in
/-- java/util/Arrays.fill -/
theorem m_31_r97 (σ : jM) (hg : GI σ)   (fr lo : Nat) (hfr : 0 ≤ fr) (hlo : 0 ≤ lo) : WP 31 0 (lv_args 0 [.ref 97, iV 0]) [] fr lo σ (fun v τ => v = none ∧ GI τ ∧ FR Wc97 σ τ) := by
  show WP 31 0 [(0, .ref 97), (1, iV 0)] [] _ _ _ _
  refine wp_ic jF_31_0 rfl (pc2 := 1) ?_
  refine wp_is1 (lv2 := [(0, .ref 97), (1, iV 0), (2, iV 0)]) jF_31_1 rfl rfl rfl (pc2 := 2) ?_
  refine wp_al1 jF_31_2 rfl rfl (pc2 := 3) ?_
  refine wp_len (n := 4096) (t := 0) jF_31_3 kd97 (by decide) rfl rfl (pc2 := 4) ?_
  refine wp_is1 (lv2 := [(0, .ref 97), (1, iV 0), (2, iV 0), (3, iV 4096)]) jF_31_4 rfl rfl rfl (pc2 := 5) ?_
  refine wp_loop (α := Int) (fun a => [(0, .ref 97), (1, iV 0), (2, iV (a)), (3, iV 4096)]) (fun a τ => (0 ≤ a ∧ a ≤ 4096) ∧ GI τ ∧ FR Wc97 σ τ) (fun a τ => Int.toNat (4096 - (a))) (0) σ ?_ ?_
  · skip
    exact ⟨⟨by omega, by omega⟩, hg, FR.rf⟩
  · rintro x1 τ3 ⟨h2, g4, f5⟩ ih6
    show WP 31 5 [(0, .ref 97), (1, iV 0), (2, iV x1), (3, iV 4096)] [] _ _ _ _
    show WP 31 5 [(0, .ref 97), (1, iV 0), (2, iV x1), (3, iV 4096)] [] _ _ _ _
    refine wp_il1 jF_31_5 rfl rfl (pc2 := 6) ?_
    refine wp_il1 jF_31_6 rfl rfl (pc2 := 7) ?_
    refine wp_i_ge jF_31_7 (m_rgb h2 rfl) (m_rgl rfl) rfl (pc2 := 10) ?_ ?_
    · intro h7
      refine wp_rv jF_31_20 ?_
      exact ⟨rfl, g4, f5⟩
    · intro h7
      refine wp_al1 jF_31_10 rfl rfl (pc2 := 11) ?_
      refine wp_il1 jF_31_11 rfl rfl (pc2 := 12) ?_
      refine wp_il1 jF_31_12 rfl rfl (pc2 := 13) ?_
      refine wp_iast (n := 4096) jF_31_13 kd97 (by decide) rfl rfl (by omega) (by omega) rfl (pc2 := 14) g4 (lo := 0) (hi := 1752) rfl (by omega) (by omega) ?_
      intro τ8 g9 f10 e11
      refine wp_inc (lv2 := [(0, .ref 97), (1, iV 0), (2, iV (x1 + 1)), (3, iV 4096)]) jF_31_14 rfl rfl rfl rfl (pc2 := 17) ?_
      refine wp_go jF_31_17 ?_
      exact ih6 ((x1 + 1)) τ8 ⟨⟨by omega, by omega⟩, g9, (FR.w f5 f10 rfl)⟩ (by show Int.toNat (4096 - (x1 + 1)) < Int.toNat (4096 - x1); omega)
set_option maxHeartbeats 4000000 in
set_option maxRecDepth 20000 in
/-- Shorts.forget -/
theorem m_73_r93 (σ : jM) (hg : GI σ)   (fr lo : Nat) (hfr : 0 ≤ fr) (hlo : 0 ≤ lo) : WP 73 0 (lv_args 0 [.ref 93]) [] fr lo σ (fun v τ => v = none ∧ GI τ ∧ FR WS σ τ) := by
  show WP 73 0 [(0, .ref 93)] [] _ _ _ _
  refine wp_al1 jF_73_0 rfl rfl (pc2 := 1) ?_
  refine wp_ic jF_73_1 rfl (pc2 := 2) ?_
  refine wp_pi jF_73_2 kd93 (by decide) rfl rfl rfl (pc2 := 5) hg (lo := 0) (hi := 1) rfl (by omega) (by omega) ?_
  intro τ1 g2 f3 e4
  refine wp_al1 jF_73_5 rfl rfl (pc2 := 6) ?_
  refine wp_gr (b := 100) jF_73_6 kd93 (by decide) (c := 200) rfl rfl rfl (pc2 := 9) ?_
  refine wp_ic jF_73_9 rfl (pc2 := 10) ?_
  refine wp_ic jF_73_10 rfl (pc2 := 11) ?_
  refine wp_bast (n := 2) jF_73_11 kd100 (by decide) rfl rfl (by omega) (by omega) rfl (pc2 := 12) g2 (lo := 0) (hi := 1) rfl (by omega) (by omega) (by decide) (by decide) ?_
  intro τ5 g6 f7 e8
  refine wp_al1 jF_73_12 rfl rfl (pc2 := 13) ?_
  refine wp_gr (b := 100) jF_73_13 kd93 (by decide) (c := 200) rfl rfl rfl (pc2 := 16) ?_
  refine wp_ic jF_73_16 rfl (pc2 := 17) ?_
  refine wp_ic jF_73_17 rfl (pc2 := 18) ?_
  refine wp_bast (n := 2) jF_73_18 kd100 (by decide) rfl rfl (by omega) (by omega) rfl (pc2 := 19) g6 (lo := 0) (hi := 1) rfl (by omega) (by omega) (by decide) (by decide) ?_
  intro τ9 g10 f11 e12
  refine wp_rv jF_73_19 ?_
  exact ⟨rfl, g10, (FR.w (FR.w (FR.w FR.rf f3 rfl) f7 rfl) f11 rfl)⟩
set_option maxHeartbeats 4000000 in
set_option maxRecDepth 20000 in
/-- Shorts.wordsOf -/
theorem m_131_r93 (σ : jM) (hg : GI σ) (sen : Int) (hl_sen : 0 ≤ sen) (hu_sen : sen ≤ 1751)  (fr lo : Nat) (hfr : 0 ≤ fr) (hlo : 0 ≤ lo) : WP 131 0 (lv_args 0 [.ref 93, iV sen]) [] fr lo σ (fun v τ => ∃ z : Int, v = some (iV z) ∧ (1 ≤ z ∧ z ≤ 5) ∧ σ = τ) := by
  show WP 131 0 [(0, .ref 93), (1, iV sen)] [] _ _ _ _
  refine wp_il1 jF_131_0 rfl rfl (pc2 := 1) ?_
  refine wp_al1 jF_131_1 rfl rfl (pc2 := 2) ?_
  have b1 := GI.b hg 93 8 kd93 (lo := 0) (hi := 24) rfl
  refine wp_gi jF_131_2 kd93 (by decide) rfl rfl rfl (pc2 := 5) ?_
  refine wp_i_lt jF_131_5 ⟨by omega, by omega⟩ (m_rgb b1 rfl) rfl (pc2 := 8) ?_ ?_
  · intro h2
    refine wp_ic jF_131_15 rfl (pc2 := 16) ?_
    refine wp_il1 jF_131_16 rfl rfl (pc2 := 17) ?_
    refine wp_ic jF_131_17 rfl (pc2 := 18) ?_
    refine wp_rem jF_131_18 ⟨by omega, by omega⟩ (by omega) (m_rgl rfl) (by omega) rfl (pc2 := 19) ?_
    refine wp_add jF_131_19 rfl (pc2 := 20) ?_
    refine wp_ri jF_131_20 rfl ?_
    exact ⟨(1 + (sen % 2)), rfl, ⟨by omega, by omega⟩, rfl⟩
  · intro h2
    refine wp_al1 jF_131_8 rfl rfl (pc2 := 9) ?_
    refine wp_gi jF_131_9 kd93 (by decide) rfl rfl rfl (pc2 := 12) ?_
    refine wp_z_ne jF_131_12 (m_rgb b1 rfl) rfl (pc2 := 15) ?_ ?_
    · intro h3
      refine wp_il1 jF_131_21 rfl rfl (pc2 := 22) ?_
      refine wp_al1 jF_131_22 rfl rfl (pc2 := 23) ?_
      refine wp_gi jF_131_23 kd93 (by decide) rfl rfl rfl (pc2 := 26) ?_
      refine wp_sub jF_131_26 rfl (pc2 := 27) ?_
      refine wp_ic jF_131_27 rfl (pc2 := 28) ?_
      refine wp_div jF_131_28 ⟨by omega, by omega⟩ (by omega) (m_rgl rfl) (by omega) rfl (pc2 := 29) ?_
      refine wp_is1 (lv2 := [(0, .ref 93), (1, iV sen), (2, iV ((sen - (σ.1 93 8)) / 3))]) jF_131_29 rfl rfl rfl (pc2 := 30) ?_
      refine wp_ic jF_131_30 rfl (pc2 := 31) ?_
      refine wp_il1 jF_131_31 rfl rfl (pc2 := 32) ?_
      refine wp_al1 jF_131_32 rfl rfl (pc2 := 33) ?_
      refine wp_gi jF_131_33 kd93 (by decide) rfl rfl rfl (pc2 := 36) ?_
      refine wp_divp jF_131_36 ⟨by omega, by omega⟩ (by omega) (m_rgb b1 rfl) (by omega) rfl (pc2 := 37) ?_
      intro z4 h5
      refine wp_ic jF_131_37 rfl (pc2 := 38) ?_
      refine wp_rem jF_131_38 ⟨by omega, by omega⟩ (by omega) (m_rgl rfl) (by omega) rfl (pc2 := 39) ?_
      refine wp_add jF_131_39 rfl (pc2 := 40) ?_
      refine wp_il1 jF_131_40 rfl rfl (pc2 := 41) ?_
      refine wp_al1 jF_131_41 rfl rfl (pc2 := 42) ?_
      refine wp_gi jF_131_42 kd93 (by decide) rfl rfl rfl (pc2 := 45) ?_
      refine wp_remp jF_131_45 ⟨by omega, by omega⟩ (by omega) (m_rgb b1 rfl) (by omega) rfl (pc2 := 46) ?_
      intro z6 h7
      refine wp_ic jF_131_46 rfl (pc2 := 47) ?_
      refine wp_rem jF_131_47 ⟨by omega, by omega⟩ (by omega) (m_rgl rfl) (by omega) rfl (pc2 := 48) ?_
      refine wp_add jF_131_48 rfl (pc2 := 49) ?_
      refine wp_ri jF_131_49 rfl ?_
      exact ⟨((3 + (z4 % 2)) + (z6 % 2)), rfl, ⟨by omega, by omega⟩, rfl⟩
    · intro h3
      refine wp_ic jF_131_15 rfl (pc2 := 16) ?_
      refine wp_il1 jF_131_16 rfl rfl (pc2 := 17) ?_
      refine wp_ic jF_131_17 rfl (pc2 := 18) ?_
      refine wp_rem jF_131_18 ⟨by omega, by omega⟩ (by omega) (m_rgl rfl) (by omega) rfl (pc2 := 19) ?_
      refine wp_add jF_131_19 rfl (pc2 := 20) ?_
      refine wp_ri jF_131_20 rfl ?_
      exact ⟨(1 + (sen % 2)), rfl, ⟨by omega, by omega⟩, rfl⟩
set_option maxHeartbeats 4000000 in
set_option maxRecDepth 20000 in
/-- Shorts.listLiterals -/
theorem m_127_r93_20 (σ : jM) (hg : GI σ)   (fr lo : Nat) (hfr : 1 ≤ fr) (hlo : 21 ≤ lo) : WP 127 0 (lv_args 0 [.ref 93, .ref 20]) [] fr lo σ (fun v τ => v = none ∧ GI τ ∧ FR WS σ τ) := by
  show WP 127 0 [(0, .ref 93), (1, .ref 20)] [] _ _ _ _
  refine wp_al1 jF_127_0 rfl rfl (pc2 := 1) ?_
  refine wp_ic jF_127_1 rfl (pc2 := 2) ?_
  refine wp_pi jF_127_2 kd93 (by decide) rfl rfl rfl (pc2 := 5) hg (lo := 0) (hi := 24) rfl (by omega) (by omega) ?_
  intro τ1 g2 f3 e4
  refine wp_ic jF_127_5 rfl (pc2 := 6) ?_
  refine wp_is1 (lv2 := [(0, .ref 93), (1, .ref 20), (2, iV 0)]) jF_127_6 rfl rfl rfl (pc2 := 7) ?_
  refine wp_loop (α := Int) (fun a => [(0, .ref 93), (1, .ref 20), (2, iV (a))]) (fun a τ => (0 ≤ a ∧ a ≤ 12) ∧ GI τ ∧ FR WS τ1 τ ∧ ((τ.1 93 8) ≤ 2 * (a))) (fun a τ => Int.toNat (12 - (a))) (0) τ1 ?_ ?_
  · skip
    have q5 : (τ1.1 93 8) = 0 := e4
    exact ⟨⟨by omega, by omega⟩, g2, FR.rf, (by omega)⟩
  · rintro x6 τ8 ⟨h7, g9, f10, p11⟩ ih12
    have b13 := GI.b g9 93 8 kd93 (lo := 0) (hi := 24) rfl
    show WP 127 7 [(0, .ref 93), (1, .ref 20), (2, iV x6)] [] _ _ _ _
    show WP 127 7 [(0, .ref 93), (1, .ref 20), (2, iV x6)] [] _ _ _ _
    refine wp_il1 jF_127_7 rfl rfl (pc2 := 8) ?_
    refine wp_bi jF_127_8 (by decide) rfl (pc2 := 10) ?_
    refine wp_i_ge jF_127_10 (m_rgb h7 rfl) (m_rgl rfl) rfl (pc2 := 13) ?_ ?_
    · intro h14
      refine wp_rv jF_127_78 ?_
      exact ⟨rfl, g9, (FR.up (FR.w FR.rf f3 rfl) f10 sb_WS_WS)⟩
    · intro h14
      refine wp_al1 jF_127_13 rfl rfl (pc2 := 14) ?_
      refine wp_il1 jF_127_14 rfl rfl (pc2 := 15) ?_
      refine wp_cV (as := [iV x6]) (rest := []) (a := 20) (mx := 2) (ci := 8) jF_127_15 kd20 (by decide) rfl rfl rfl rfl rfl (by omega) (by omega) rfl (pc2 := 18) ?_
      refine wp_use (m_108_r20 τ8 g9 x6 (by omega) (by omega)  _ _ (by omega) (by omega)) ?_
      rintro _ _ ⟨z17, rfl, h18, rfl⟩
      show WP 127 18 [(0, .ref 93), (1, .ref 20), (2, iV x6)] [iV z17] _ _ _ _
      refine wp_z_eq jF_127_18 (m_rgb h18 rfl) rfl (pc2 := 21) ?_ ?_
      · intro h19
        refine wp_inc (lv2 := [(0, .ref 93), (1, .ref 20), (2, iV (x6 + 1))]) jF_127_72 rfl rfl rfl rfl (pc2 := 75) ?_
        refine wp_go jF_127_75 ?_
        exact ih12 ((x6 + 1)) τ8 ⟨⟨by omega, by omega⟩, g9, f10, (by omega)⟩ (by show Int.toNat (12 - (x6 + 1)) < Int.toNat (12 - x6); omega)
      · intro h19
        refine wp_al1 jF_127_21 rfl rfl (pc2 := 22) ?_
        refine wp_gr (b := 94) jF_127_22 kd93 (by decide) (c := 194) rfl rfl rfl (pc2 := 25) ?_
        refine wp_al1 jF_127_25 rfl rfl (pc2 := 26) ?_
        refine wp_gi jF_127_26 kd93 (by decide) rfl rfl rfl (pc2 := 29) ?_
        refine wp_al1 jF_127_29 rfl rfl (pc2 := 30) ?_
        refine wp_gr (b := 26) jF_127_30 kd20 (by decide) (c := 9) rfl rfl rfl (pc2 := 33) ?_
        refine wp_il1 jF_127_33 rfl rfl (pc2 := 34) ?_
        refine wp_lald (n := 18) jF_127_34 kd26 (by decide) rfl rfl (by omega) (by omega) rfl (pc2 := 35) ?_
        intro y20
        refine wp_last (n := 24) jF_127_35 kd94 (by decide) rfl rfl (by omega) (by omega) rfl (pc2 := 36) g9 ?_
        intro τ21 g22 f23
        refine wp_al1 jF_127_36 rfl rfl (pc2 := 37) ?_
        refine wp_gr (b := 94) jF_127_37 kd93 (by decide) (c := 194) rfl rfl rfl (pc2 := 40) ?_
        refine wp_al1 jF_127_40 rfl rfl (pc2 := 41) ?_
        refine wp_gi jF_127_41 kd93 (by decide) rfl (FRw.na f23 (by decide)) rfl (pc2 := 44) ?_
        refine wp_ic jF_127_44 rfl (pc2 := 45) ?_
        refine wp_add jF_127_45 rfl (pc2 := 46) ?_
        refine wp_al1 jF_127_46 rfl rfl (pc2 := 47) ?_
        refine wp_glA jF_127_47 kd20 (by decide) rfl rfl (pc2 := 50) ?_
        intro y24
        refine wp_al1 jF_127_50 rfl rfl (pc2 := 51) ?_
        refine wp_gr (b := 26) jF_127_51 kd20 (by decide) (c := 9) rfl rfl rfl (pc2 := 54) ?_
        refine wp_il1 jF_127_54 rfl rfl (pc2 := 55) ?_
        refine wp_lald (n := 18) jF_127_55 kd26 (by decide) rfl rfl (by omega) (by omega) rfl (pc2 := 56) ?_
        intro y25
        refine wp_ld jF_127_56 rfl (pc2 := 59) ?_
        refine wp_lng (pc2 := 60) jF_127_59 rfl rfl ?_
        intro y26
        refine wp_lng (pc2 := 61) jF_127_60 rfl rfl ?_
        intro y27
        refine wp_last (n := 24) jF_127_61 kd94 (by decide) rfl rfl (by omega) (by omega) rfl (pc2 := 62) g22 ?_
        intro τ28 g29 f30
        refine wp_al1 jF_127_62 rfl rfl (pc2 := 63) ?_
        refine wp_dup jF_127_63 rfl rfl (pc2 := 64) ?_
        refine wp_gi jF_127_64 kd93 (by decide) rfl ((FRw.na f30 (by decide)).trans (FRw.na f23 (by decide))) rfl (pc2 := 67) ?_
        refine wp_ic jF_127_67 rfl (pc2 := 68) ?_
        refine wp_add jF_127_68 rfl (pc2 := 69) ?_
        refine wp_pi jF_127_69 kd93 (by decide) rfl rfl rfl (pc2 := 72) g29 (lo := 0) (hi := 24) rfl (by omega) (by omega) ?_
        intro τ31 g32 f33 e34
        refine wp_inc (lv2 := [(0, .ref 93), (1, .ref 20), (2, iV (x6 + 1))]) jF_127_72 rfl rfl rfl rfl (pc2 := 75) ?_
        refine wp_go jF_127_75 ?_
        have q35 : (τ31.1 93 8) = ((τ8.1 93 8) + 2) := e34
        exact ih12 ((x6 + 1)) τ31 ⟨⟨by omega, by omega⟩, g32, (FR.w (FR.w (FR.w f10 f23 rfl) f30 rfl) f33 rfl), (by omega)⟩ (by show Int.toNat (12 - (x6 + 1)) < Int.toNat (12 - x6); omega)
set_option maxHeartbeats 4000000 in
set_option maxRecDepth 20000 in
/-- Shorts.listLiterals -/
theorem m_127_r93_45 (σ : jM) (hg : GI σ)   (fr lo : Nat) (hfr : 1 ≤ fr) (hlo : 21 ≤ lo) : WP 127 0 (lv_args 0 [.ref 93, .ref 45]) [] fr lo σ (fun v τ => v = none ∧ GI τ ∧ FR WS σ τ) := by
  show WP 127 0 [(0, .ref 93), (1, .ref 45)] [] _ _ _ _
  refine wp_al1 jF_127_0 rfl rfl (pc2 := 1) ?_
  refine wp_ic jF_127_1 rfl (pc2 := 2) ?_
  refine wp_pi jF_127_2 kd93 (by decide) rfl rfl rfl (pc2 := 5) hg (lo := 0) (hi := 24) rfl (by omega) (by omega) ?_
  intro τ1 g2 f3 e4
  refine wp_ic jF_127_5 rfl (pc2 := 6) ?_
  refine wp_is1 (lv2 := [(0, .ref 93), (1, .ref 45), (2, iV 0)]) jF_127_6 rfl rfl rfl (pc2 := 7) ?_
  refine wp_loop (α := Int) (fun a => [(0, .ref 93), (1, .ref 45), (2, iV (a))]) (fun a τ => (0 ≤ a ∧ a ≤ 12) ∧ GI τ ∧ FR WS τ1 τ ∧ ((τ.1 93 8) ≤ 2 * (a))) (fun a τ => Int.toNat (12 - (a))) (0) τ1 ?_ ?_
  · skip
    have q5 : (τ1.1 93 8) = 0 := e4
    exact ⟨⟨by omega, by omega⟩, g2, FR.rf, (by omega)⟩
  · rintro x6 τ8 ⟨h7, g9, f10, p11⟩ ih12
    have b13 := GI.b g9 93 8 kd93 (lo := 0) (hi := 24) rfl
    show WP 127 7 [(0, .ref 93), (1, .ref 45), (2, iV x6)] [] _ _ _ _
    show WP 127 7 [(0, .ref 93), (1, .ref 45), (2, iV x6)] [] _ _ _ _
    refine wp_il1 jF_127_7 rfl rfl (pc2 := 8) ?_
    refine wp_bi jF_127_8 (by decide) rfl (pc2 := 10) ?_
    refine wp_i_ge jF_127_10 (m_rgb h7 rfl) (m_rgl rfl) rfl (pc2 := 13) ?_ ?_
    · intro h14
      refine wp_rv jF_127_78 ?_
      exact ⟨rfl, g9, (FR.up (FR.w FR.rf f3 rfl) f10 sb_WS_WS)⟩
    · intro h14
      refine wp_al1 jF_127_13 rfl rfl (pc2 := 14) ?_
      refine wp_il1 jF_127_14 rfl rfl (pc2 := 15) ?_
      refine wp_cV (as := [iV x6]) (rest := []) (a := 45) (mx := 2) (ci := 8) jF_127_15 kd45 (by decide) rfl rfl rfl rfl rfl (by omega) (by omega) rfl (pc2 := 18) ?_
      refine wp_use (m_108_r45 τ8 g9 x6 (by omega) (by omega)  _ _ (by omega) (by omega)) ?_
      rintro _ _ ⟨z17, rfl, h18, rfl⟩
      show WP 127 18 [(0, .ref 93), (1, .ref 45), (2, iV x6)] [iV z17] _ _ _ _
      refine wp_z_eq jF_127_18 (m_rgb h18 rfl) rfl (pc2 := 21) ?_ ?_
      · intro h19
        refine wp_inc (lv2 := [(0, .ref 93), (1, .ref 45), (2, iV (x6 + 1))]) jF_127_72 rfl rfl rfl rfl (pc2 := 75) ?_
        refine wp_go jF_127_75 ?_
        exact ih12 ((x6 + 1)) τ8 ⟨⟨by omega, by omega⟩, g9, f10, (by omega)⟩ (by show Int.toNat (12 - (x6 + 1)) < Int.toNat (12 - x6); omega)
      · intro h19
        refine wp_al1 jF_127_21 rfl rfl (pc2 := 22) ?_
        refine wp_gr (b := 94) jF_127_22 kd93 (by decide) (c := 194) rfl rfl rfl (pc2 := 25) ?_
        refine wp_al1 jF_127_25 rfl rfl (pc2 := 26) ?_
        refine wp_gi jF_127_26 kd93 (by decide) rfl rfl rfl (pc2 := 29) ?_
        refine wp_al1 jF_127_29 rfl rfl (pc2 := 30) ?_
        refine wp_gr (b := 51) jF_127_30 kd45 (by decide) (c := 9) rfl rfl rfl (pc2 := 33) ?_
        refine wp_il1 jF_127_33 rfl rfl (pc2 := 34) ?_
        refine wp_lald (n := 18) jF_127_34 kd51 (by decide) rfl rfl (by omega) (by omega) rfl (pc2 := 35) ?_
        intro y20
        refine wp_last (n := 24) jF_127_35 kd94 (by decide) rfl rfl (by omega) (by omega) rfl (pc2 := 36) g9 ?_
        intro τ21 g22 f23
        refine wp_al1 jF_127_36 rfl rfl (pc2 := 37) ?_
        refine wp_gr (b := 94) jF_127_37 kd93 (by decide) (c := 194) rfl rfl rfl (pc2 := 40) ?_
        refine wp_al1 jF_127_40 rfl rfl (pc2 := 41) ?_
        refine wp_gi jF_127_41 kd93 (by decide) rfl (FRw.na f23 (by decide)) rfl (pc2 := 44) ?_
        refine wp_ic jF_127_44 rfl (pc2 := 45) ?_
        refine wp_add jF_127_45 rfl (pc2 := 46) ?_
        refine wp_al1 jF_127_46 rfl rfl (pc2 := 47) ?_
        refine wp_glA jF_127_47 kd45 (by decide) rfl rfl (pc2 := 50) ?_
        intro y24
        refine wp_al1 jF_127_50 rfl rfl (pc2 := 51) ?_
        refine wp_gr (b := 51) jF_127_51 kd45 (by decide) (c := 9) rfl rfl rfl (pc2 := 54) ?_
        refine wp_il1 jF_127_54 rfl rfl (pc2 := 55) ?_
        refine wp_lald (n := 18) jF_127_55 kd51 (by decide) rfl rfl (by omega) (by omega) rfl (pc2 := 56) ?_
        intro y25
        refine wp_ld jF_127_56 rfl (pc2 := 59) ?_
        refine wp_lng (pc2 := 60) jF_127_59 rfl rfl ?_
        intro y26
        refine wp_lng (pc2 := 61) jF_127_60 rfl rfl ?_
        intro y27
        refine wp_last (n := 24) jF_127_61 kd94 (by decide) rfl rfl (by omega) (by omega) rfl (pc2 := 62) g22 ?_
        intro τ28 g29 f30
        refine wp_al1 jF_127_62 rfl rfl (pc2 := 63) ?_
        refine wp_dup jF_127_63 rfl rfl (pc2 := 64) ?_
        refine wp_gi jF_127_64 kd93 (by decide) rfl ((FRw.na f30 (by decide)).trans (FRw.na f23 (by decide))) rfl (pc2 := 67) ?_
        refine wp_ic jF_127_67 rfl (pc2 := 68) ?_
        refine wp_add jF_127_68 rfl (pc2 := 69) ?_
        refine wp_pi jF_127_69 kd93 (by decide) rfl rfl rfl (pc2 := 72) g29 (lo := 0) (hi := 24) rfl (by omega) (by omega) ?_
        intro τ31 g32 f33 e34
        refine wp_inc (lv2 := [(0, .ref 93), (1, .ref 45), (2, iV (x6 + 1))]) jF_127_72 rfl rfl rfl rfl (pc2 := 75) ?_
        refine wp_go jF_127_75 ?_
        have q35 : (τ31.1 93 8) = ((τ8.1 93 8) + 2) := e34
        exact ih12 ((x6 + 1)) τ31 ⟨⟨by omega, by omega⟩, g32, (FR.w (FR.w (FR.w f10 f23 rfl) f30 rfl) f33 rfl), (by omega)⟩ (by show Int.toNat (12 - (x6 + 1)) < Int.toNat (12 - x6); omega)
set_option maxHeartbeats 4000000 in
set_option maxRecDepth 20000 in
/-- Shorts.listSentences -/
theorem m_128_r93 (σ : jM) (hg : GI σ)   (fr lo : Nat) (hfr : 0 ≤ fr) (hlo : 0 ≤ lo) : WP 128 0 (lv_args 0 [.ref 93]) [] fr lo σ (fun v τ => v = none ∧ GI τ ∧ FR WS σ τ) := by
  show WP 128 0 [(0, .ref 93)] [] _ _ _ _
  refine wp_ic jF_128_0 rfl (pc2 := 1) ?_
  refine wp_is1 (lv2 := [(0, .ref 93), (1, iV 0)]) jF_128_1 rfl rfl rfl (pc2 := 2) ?_
  refine wp_loop (α := Int) (fun a => [(0, .ref 93), (1, iV (a))]) (fun a τ => (0 ≤ a ∧ a ≤ 24) ∧ GI τ ∧ FR WS σ τ) (fun a τ => Int.toNat (24 - (a))) (0) σ ?_ ?_
  · skip
    exact ⟨⟨by omega, by omega⟩, hg, FR.rf⟩
  · rintro x1 τ3 ⟨h2, g4, f5⟩ ih6
    show WP 128 2 [(0, .ref 93), (1, iV x1)] [] _ _ _ _
    show WP 128 2 [(0, .ref 93), (1, iV x1)] [] _ _ _ _
    refine wp_il1 jF_128_2 rfl rfl (pc2 := 3) ?_
    refine wp_al1 jF_128_3 rfl rfl (pc2 := 4) ?_
    have b7 := GI.b g4 93 8 kd93 (lo := 0) (hi := 24) rfl
    refine wp_gi jF_128_4 kd93 (by decide) rfl rfl rfl (pc2 := 7) ?_
    refine wp_i_ge jF_128_7 (m_rgb h2 rfl) (m_rgb b7 rfl) rfl (pc2 := 10) ?_ ?_
    · intro h8
      refine wp_al1 jF_128_28 rfl rfl (pc2 := 29) ?_
      refine wp_al1 jF_128_29 rfl rfl (pc2 := 30) ?_
      refine wp_gi jF_128_30 kd93 (by decide) rfl rfl rfl (pc2 := 33) ?_
      refine wp_pi jF_128_33 kd93 (by decide) rfl rfl rfl (pc2 := 36) g4 (lo := 0) (hi := 1752) rfl (by omega) (by omega) ?_
      intro τ9 g10 f11 e12
      refine wp_ic jF_128_36 rfl (pc2 := 37) ?_
      refine wp_is1 (lv2 := [(0, .ref 93), (1, iV 0)]) jF_128_37 rfl rfl rfl (pc2 := 38) ?_
      refine wp_loop (α := Int) (fun a => [(0, .ref 93), (1, iV (a))]) (fun a τ => (0 ≤ a ∧ a ≤ 24) ∧ GI τ ∧ FR WS τ9 τ ∧ ((τ.1 93 9) ≤ 24 + 72 * (a))) (fun a τ => Int.toNat (24 - (a))) (0) τ9 ?_ ?_
      · skip
        have q13 : (τ9.1 93 9) = (τ3.1 93 8) := e12
        exact ⟨⟨by omega, by omega⟩, g10, FR.rf, (by omega)⟩
      · rintro x14 τ16 ⟨h15, g17, f18, p19⟩ ih20
        have b21 := GI.b g17 93 9 kd93 (lo := 0) (hi := 1752) rfl
        show WP 128 38 [(0, .ref 93), (1, iV x14)] [] _ _ _ _
        show WP 128 38 [(0, .ref 93), (1, iV x14)] [] _ _ _ _
        refine wp_il1 jF_128_38 rfl rfl (pc2 := 39) ?_
        refine wp_al1 jF_128_39 rfl rfl (pc2 := 40) ?_
        have b22 := GI.b g17 93 8 kd93 (lo := 0) (hi := 24) rfl
        refine wp_gi jF_128_40 kd93 (by decide) rfl rfl rfl (pc2 := 43) ?_
        refine wp_i_ge jF_128_43 (m_rgb h15 rfl) (m_rgb b22 rfl) rfl (pc2 := 46) ?_ ?_
        · intro h23
          refine wp_rv jF_128_152 ?_
          exact ⟨rfl, g17, (FR.up (FR.w f5 f11 rfl) f18 sb_WS_WS)⟩
        · intro h23
          refine wp_ic jF_128_46 rfl (pc2 := 47) ?_
          refine wp_is1 (lv2 := [(0, .ref 93), (1, iV x14), (2, iV 0)]) jF_128_47 rfl rfl rfl (pc2 := 48) ?_
          refine wp_loop (α := Int) (fun a => [(0, .ref 93), (1, iV x14), (2, iV (a))]) (fun a τ => (0 ≤ a ∧ a ≤ 24) ∧ GI τ ∧ FR WS τ16 τ ∧ ((τ.1 93 9) ≤ 24 + 72 * x14 + 3 * (a))) (fun a τ => Int.toNat (24 - (a))) (0) τ16 ?_ ?_
          · skip
            exact ⟨⟨by omega, by omega⟩, g17, FR.rf, (by omega)⟩
          · rintro x24 τ26 ⟨h25, g27, f28, p29⟩ ih30
            have b31 := GI.b g27 93 9 kd93 (lo := 0) (hi := 1752) rfl
            show WP 128 48 [(0, .ref 93), (1, iV x14), (2, iV x24)] [] _ _ _ _
            show WP 128 48 [(0, .ref 93), (1, iV x14), (2, iV x24)] [] _ _ _ _
            refine wp_il1 jF_128_48 rfl rfl (pc2 := 49) ?_
            refine wp_al1 jF_128_49 rfl rfl (pc2 := 50) ?_
            have b32 := GI.b g27 93 8 kd93 (lo := 0) (hi := 24) rfl
            refine wp_gi jF_128_50 kd93 (by decide) rfl rfl rfl (pc2 := 53) ?_
            refine wp_i_ge jF_128_53 (m_rgb h25 rfl) (m_rgb b32 rfl) rfl (pc2 := 56) ?_ ?_
            · intro h33
              refine wp_inc (lv2 := [(0, .ref 93), (1, iV (x14 + 1)), (2, iV x24)]) jF_128_146 rfl rfl rfl rfl (pc2 := 149) ?_
              refine wp_go jF_128_149 ?_
              refine wp_less [0, 1] (lv2 := [(0, .ref 93), (1, iV (x14 + 1))]) rfl rfl ?_
              exact ih20 ((x14 + 1)) τ26 ⟨⟨by omega, by omega⟩, g27, (FR.up f18 f28 sb_WS_WS), (by omega)⟩ (by show Int.toNat (24 - (x14 + 1)) < Int.toNat (24 - x14); omega)
            · intro h33
              refine wp_al1 jF_128_56 rfl rfl (pc2 := 57) ?_
              refine wp_gr (b := 95) jF_128_57 kd93 (by decide) (c := 195) rfl rfl rfl (pc2 := 60) ?_
              refine wp_al1 jF_128_60 rfl rfl (pc2 := 61) ?_
              refine wp_gi jF_128_61 kd93 (by decide) rfl rfl rfl (pc2 := 64) ?_
              refine wp_al1 jF_128_64 rfl rfl (pc2 := 65) ?_
              refine wp_gr (b := 94) jF_128_65 kd93 (by decide) (c := 194) rfl rfl rfl (pc2 := 68) ?_
              refine wp_il1 jF_128_68 rfl rfl (pc2 := 69) ?_
              refine wp_lald (n := 24) jF_128_69 kd94 (by decide) rfl rfl (by omega) (by omega) rfl (pc2 := 70) ?_
              intro y34
              refine wp_al1 jF_128_70 rfl rfl (pc2 := 71) ?_
              refine wp_gr (b := 94) jF_128_71 kd93 (by decide) (c := 194) rfl rfl rfl (pc2 := 74) ?_
              refine wp_il1 jF_128_74 rfl rfl (pc2 := 75) ?_
              refine wp_lald (n := 24) jF_128_75 kd94 (by decide) rfl rfl (by omega) (by omega) rfl (pc2 := 76) ?_
              intro y35
              refine wp_lng (pc2 := 77) jF_128_76 rfl rfl ?_
              intro y36
              refine wp_last (n := 1752) jF_128_77 kd95 (by decide) rfl rfl (by omega) (by omega) rfl (pc2 := 78) g27 ?_
              intro τ37 g38 f39
              refine wp_al1 jF_128_78 rfl rfl (pc2 := 79) ?_
              refine wp_gr (b := 95) jF_128_79 kd93 (by decide) (c := 195) rfl rfl rfl (pc2 := 82) ?_
              refine wp_al1 jF_128_82 rfl rfl (pc2 := 83) ?_
              refine wp_gi jF_128_83 kd93 (by decide) rfl (FRw.na f39 (by decide)) rfl (pc2 := 86) ?_
              refine wp_ic jF_128_86 rfl (pc2 := 87) ?_
              refine wp_add jF_128_87 rfl (pc2 := 88) ?_
              refine wp_al1 jF_128_88 rfl rfl (pc2 := 89) ?_
              refine wp_gr (b := 94) jF_128_89 kd93 (by decide) (c := 194) rfl rfl rfl (pc2 := 92) ?_
              refine wp_il1 jF_128_92 rfl rfl (pc2 := 93) ?_
              refine wp_lald (n := 24) jF_128_93 kd94 (by decide) rfl rfl (by omega) (by omega) rfl (pc2 := 94) ?_
              intro y40
              refine wp_al1 jF_128_94 rfl rfl (pc2 := 95) ?_
              refine wp_gr (b := 94) jF_128_95 kd93 (by decide) (c := 194) rfl rfl rfl (pc2 := 98) ?_
              refine wp_il1 jF_128_98 rfl rfl (pc2 := 99) ?_
              refine wp_lald (n := 24) jF_128_99 kd94 (by decide) rfl rfl (by omega) (by omega) rfl (pc2 := 100) ?_
              intro y41
              refine wp_lng (pc2 := 101) jF_128_100 rfl rfl ?_
              intro y42
              refine wp_last (n := 1752) jF_128_101 kd95 (by decide) rfl rfl (by omega) (by omega) rfl (pc2 := 102) g38 ?_
              intro τ43 g44 f45
              refine wp_al1 jF_128_102 rfl rfl (pc2 := 103) ?_
              refine wp_gr (b := 95) jF_128_103 kd93 (by decide) (c := 195) rfl rfl rfl (pc2 := 106) ?_
              refine wp_al1 jF_128_106 rfl rfl (pc2 := 107) ?_
              refine wp_gi jF_128_107 kd93 (by decide) rfl ((FRw.na f45 (by decide)).trans (FRw.na f39 (by decide))) rfl (pc2 := 110) ?_
              refine wp_ic jF_128_110 rfl (pc2 := 111) ?_
              refine wp_add jF_128_111 rfl (pc2 := 112) ?_
              refine wp_al1 jF_128_112 rfl rfl (pc2 := 113) ?_
              refine wp_gr (b := 94) jF_128_113 kd93 (by decide) (c := 194) rfl rfl rfl (pc2 := 116) ?_
              refine wp_il1 jF_128_116 rfl rfl (pc2 := 117) ?_
              refine wp_lald (n := 24) jF_128_117 kd94 (by decide) rfl rfl (by omega) (by omega) rfl (pc2 := 118) ?_
              intro y46
              refine wp_al1 jF_128_118 rfl rfl (pc2 := 119) ?_
              refine wp_gr (b := 94) jF_128_119 kd93 (by decide) (c := 194) rfl rfl rfl (pc2 := 122) ?_
              refine wp_il1 jF_128_122 rfl rfl (pc2 := 123) ?_
              refine wp_lald (n := 24) jF_128_123 kd94 (by decide) rfl rfl (by omega) (by omega) rfl (pc2 := 124) ?_
              intro y47
              refine wp_ld jF_128_124 rfl (pc2 := 127) ?_
              refine wp_lng (pc2 := 128) jF_128_127 rfl rfl ?_
              intro y48
              refine wp_lng (pc2 := 129) jF_128_128 rfl rfl ?_
              intro y49
              refine wp_last (n := 1752) jF_128_129 kd95 (by decide) rfl rfl (by omega) (by omega) rfl (pc2 := 130) g44 ?_
              intro τ50 g51 f52
              refine wp_al1 jF_128_130 rfl rfl (pc2 := 131) ?_
              refine wp_dup jF_128_131 rfl rfl (pc2 := 132) ?_
              refine wp_gi jF_128_132 kd93 (by decide) rfl ((FRw.na f52 (by decide)).trans ((FRw.na f45 (by decide)).trans (FRw.na f39 (by decide)))) rfl (pc2 := 135) ?_
              refine wp_ic jF_128_135 rfl (pc2 := 136) ?_
              refine wp_add jF_128_136 rfl (pc2 := 137) ?_
              refine wp_pi jF_128_137 kd93 (by decide) rfl rfl rfl (pc2 := 140) g51 (lo := 0) (hi := 1752) rfl (by omega) (by omega) ?_
              intro τ53 g54 f55 e56
              refine wp_inc (lv2 := [(0, .ref 93), (1, iV x14), (2, iV (x24 + 1))]) jF_128_140 rfl rfl rfl rfl (pc2 := 143) ?_
              refine wp_go jF_128_143 ?_
              have q57 : (τ53.1 93 9) = ((τ26.1 93 9) + 3) := e56
              exact ih30 ((x24 + 1)) τ53 ⟨⟨by omega, by omega⟩, g54, (FR.w (FR.w (FR.w (FR.w f28 f39 rfl) f45 rfl) f52 rfl) f55 rfl), (by omega)⟩ (by show Int.toNat (24 - (x24 + 1)) < Int.toNat (24 - x24); omega)
    · intro h8
      refine wp_al1 jF_128_10 rfl rfl (pc2 := 11) ?_
      refine wp_gr (b := 95) jF_128_11 kd93 (by decide) (c := 195) rfl rfl rfl (pc2 := 14) ?_
      refine wp_il1 jF_128_14 rfl rfl (pc2 := 15) ?_
      refine wp_al1 jF_128_15 rfl rfl (pc2 := 16) ?_
      refine wp_gr (b := 94) jF_128_16 kd93 (by decide) (c := 194) rfl rfl rfl (pc2 := 19) ?_
      refine wp_il1 jF_128_19 rfl rfl (pc2 := 20) ?_
      refine wp_lald (n := 24) jF_128_20 kd94 (by decide) rfl rfl (by omega) (by omega) rfl (pc2 := 21) ?_
      intro y58
      refine wp_last (n := 1752) jF_128_21 kd95 (by decide) rfl rfl (by omega) (by omega) rfl (pc2 := 22) g4 ?_
      intro τ59 g60 f61
      refine wp_inc (lv2 := [(0, .ref 93), (1, iV (x1 + 1))]) jF_128_22 rfl rfl rfl rfl (pc2 := 25) ?_
      refine wp_go jF_128_25 ?_
      exact ih6 ((x1 + 1)) τ59 ⟨⟨by omega, by omega⟩, g60, (FR.w f5 f61 rfl)⟩ (by show Int.toNat (24 - (x1 + 1)) < Int.toNat (24 - x1); omega)
set_option maxHeartbeats 4000000 in
set_option maxRecDepth 20000 in
/-- Shorts.slotOf -/
theorem m_130_r93 (σ : jM) (hg : GI σ) (set : Int64)  (fr lo : Nat) (hfr : 0 ≤ fr) (hlo : 0 ≤ lo) : WP 130 0 (lv_args 0 [.ref 93, .long set]) [] fr lo σ (fun v τ => ∃ z : Int, v = some (iV z) ∧ (0 ≤ z ∧ z ≤ 4095) ∧ σ = τ) := by
  show WP 130 0 [(0, .ref 93), (1, .long set)] [] _ _ _ _
  refine wp_ll1 jF_130_0 rfl rfl (pc2 := 1) ?_
  refine wp_ld jF_130_1 rfl (pc2 := 4) ?_
  refine wp_lng (pc2 := 5) jF_130_4 rfl rfl ?_
  intro y1
  refine wp_bi jF_130_5 (by decide) rfl (pc2 := 7) ?_
  refine wp_ush52 jF_130_7 rfl (pc2 := 8) ?_
  intro y2 h3
  refine wp_l2ish jF_130_8 h3 rfl (pc2 := 9) ?_
  intro z4 h5
  refine wp_is1 (lv2 := [(0, .ref 93), (1, .long set), (3, iV z4)]) jF_130_9 rfl rfl rfl (pc2 := 10) ?_
  refine wp_ic jF_130_10 rfl (pc2 := 11) ?_
  refine wp_is2 (lv2 := [(0, .ref 93), (1, .long set), (3, iV z4), (4, iV 0)]) jF_130_11 rfl rfl rfl (pc2 := 13) ?_
  refine wp_loop (α := Int × Int) (fun a => [(0, .ref 93), (1, .long set), (3, iV (a.1)), (4, iV (a.2))]) (fun a τ => (0 ≤ a.1 ∧ a.1 ≤ 4095) ∧ (0 ≤ a.2 ∧ a.2 ≤ 4096) ∧ σ = τ) (fun a τ => Int.toNat (4096 - (a.2))) (z4, 0) σ ?_ ?_
  · skip
    exact ⟨⟨by (try dsimp only); omega, by (try dsimp only); omega⟩, ⟨by (try dsimp only); omega, by (try dsimp only); omega⟩, rfl⟩
  · rintro ⟨x6, x7⟩ _ ⟨h8, h9, rfl⟩ ih13
    try dsimp only at h8 h9
    show WP 130 13 [(0, .ref 93), (1, .long set), (3, iV x6), (4, iV x7)] [] _ _ _ _
    show WP 130 13 [(0, .ref 93), (1, .long set), (3, iV x6), (4, iV x7)] [] _ _ _ _
    refine wp_il2 jF_130_13 rfl rfl (pc2 := 15) ?_
    refine wp_si jF_130_15 (by decide) rfl (pc2 := 18) ?_
    refine wp_i_ge jF_130_18 (m_rgb h9 rfl) (m_rgl rfl) rfl (pc2 := 21) ?_ ?_
    · intro h14
      refine wp_il1 jF_130_69 rfl rfl (pc2 := 70) ?_
      refine wp_ri jF_130_70 rfl ?_
      exact ⟨x6, rfl, ⟨by omega, by omega⟩, rfl⟩
    · intro h14
      refine wp_al1 jF_130_21 rfl rfl (pc2 := 22) ?_
      refine wp_gr (b := 97) jF_130_22 kd93 (by decide) (c := 197) rfl rfl rfl (pc2 := 25) ?_
      refine wp_il1 jF_130_25 rfl rfl (pc2 := 26) ?_
      have b15 := GI.b hg 97 x6.toNat kd97 (lo := 0) (hi := 1752) rfl
      refine wp_iald (n := 4096) (e := (σ.1 97 x6.toNat)) jF_130_26 kd97 (by decide) rfl rfl (by omega) (by omega) rfl rfl (pc2 := 27) ?_
      refine wp_ic jF_130_27 rfl (pc2 := 28) ?_
      refine wp_sub jF_130_28 rfl (pc2 := 29) ?_
      refine wp_is2 (lv2 := [(0, .ref 93), (1, .long set), (3, iV x6), (4, iV x7), (5, iV ((σ.1 97 x6.toNat) - 1))]) jF_130_29 rfl rfl rfl (pc2 := 31) ?_
      refine wp_il2 jF_130_31 rfl rfl (pc2 := 33) ?_
      refine wp_z_lt jF_130_33 ⟨by omega, by omega⟩ rfl (pc2 := 36) ?_ ?_
      · intro h16
        refine wp_il1 jF_130_53 rfl rfl (pc2 := 54) ?_
        refine wp_ri jF_130_54 rfl ?_
        exact ⟨x6, rfl, ⟨by omega, by omega⟩, rfl⟩
      · intro h16
        refine wp_al1 jF_130_36 rfl rfl (pc2 := 37) ?_
        refine wp_gr (b := 95) jF_130_37 kd93 (by decide) (c := 195) rfl rfl rfl (pc2 := 40) ?_
        refine wp_al1 jF_130_40 rfl rfl (pc2 := 41) ?_
        refine wp_gr (b := 96) jF_130_41 kd93 (by decide) (c := 196) rfl rfl rfl (pc2 := 44) ?_
        refine wp_il2 jF_130_44 rfl rfl (pc2 := 46) ?_
        have b17 := GI.b hg 96 ((σ.1 97 x6.toNat) - 1).toNat kd96 (lo := 0) (hi := 1751) rfl
        refine wp_iald (n := 1752) (e := (σ.1 96 ((σ.1 97 x6.toNat) - 1).toNat)) jF_130_46 kd96 (by decide) rfl rfl (by omega) (by omega) rfl rfl (pc2 := 47) ?_
        refine wp_lald (n := 1752) jF_130_47 kd95 (by decide) rfl rfl (by omega) (by omega) rfl (pc2 := 48) ?_
        intro y18
        refine wp_ll1 jF_130_48 rfl rfl (pc2 := 49) ?_
        refine wp_anyL (pc2 := 50) jF_130_49 rfl rfl ?_
        intro z19 h20
        refine wp_z_ne jF_130_50 (m_rgb h20 rfl) rfl (pc2 := 53) ?_ ?_
        · intro h21
          refine wp_il1 jF_130_55 rfl rfl (pc2 := 56) ?_
          refine wp_ic jF_130_56 rfl (pc2 := 57) ?_
          refine wp_add jF_130_57 rfl (pc2 := 58) ?_
          refine wp_si jF_130_58 (by decide) rfl (pc2 := 61) ?_
          refine wp_rem jF_130_61 ⟨by omega, by omega⟩ (by omega) (m_rgl rfl) (by omega) rfl (pc2 := 62) ?_
          refine wp_is1 (lv2 := [(0, .ref 93), (1, .long set), (3, iV ((x6 + 1) % 4096)), (4, iV x7), (5, iV ((σ.1 97 x6.toNat) - 1))]) jF_130_62 rfl rfl rfl (pc2 := 63) ?_
          refine wp_inc (lv2 := [(0, .ref 93), (1, .long set), (3, iV ((x6 + 1) % 4096)), (4, iV (x7 + 1)), (5, iV ((σ.1 97 x6.toNat) - 1))]) jF_130_63 rfl rfl rfl rfl (pc2 := 66) ?_
          refine wp_go jF_130_66 ?_
          refine wp_less [0, 1, 3, 4] (lv2 := [(0, .ref 93), (1, .long set), (3, iV ((x6 + 1) % 4096)), (4, iV (x7 + 1))]) rfl rfl ?_
          exact ih13 (((x6 + 1) % 4096), (x7 + 1)) σ ⟨⟨by (try dsimp only); omega, by (try dsimp only); omega⟩, ⟨by (try dsimp only); omega, by (try dsimp only); omega⟩, rfl⟩ (by show Int.toNat (4096 - (x7 + 1)) < Int.toNat (4096 - x7); omega)
        · intro h21
          refine wp_il1 jF_130_53 rfl rfl (pc2 := 54) ?_
          refine wp_ri jF_130_54 rfl ?_
          exact ⟨x6, rfl, ⟨by omega, by omega⟩, rfl⟩
set_option maxHeartbeats 4000000 in
set_option maxRecDepth 20000 in
/-- Shorts.chooseSentences -/
theorem m_129_r93 (σ : jM) (hg : GI σ)   (fr lo : Nat) (hfr : 1 ≤ fr) (hlo : 25 ≤ lo) : WP 129 0 (lv_args 0 [.ref 93]) [] fr lo σ (fun v τ => v = none ∧ GI τ ∧ FR WS σ τ) := by
  show WP 129 0 [(0, .ref 93)] [] _ _ _ _
  refine wp_al1 jF_129_0 rfl rfl (pc2 := 1) ?_
  refine wp_gr (b := 97) jF_129_1 kd93 (by decide) (c := 197) rfl rfl rfl (pc2 := 4) ?_
  refine wp_ic jF_129_4 rfl (pc2 := 5) ?_
  refine wp_cS (as := [.ref 97, iV 0]) (rest := []) (mx := 4) jF_129_5 rfl rfl rfl rfl (by omega) (by omega) rfl (pc2 := 8) ?_
  refine wp_use (m_31_r97 σ hg   _ _ (by omega) (by omega)) ?_
  rintro _ τ1 ⟨rfl, g2, f3⟩
  show WP 129 8 [(0, .ref 93)] [] _ _ _ _
  refine wp_al1 jF_129_8 rfl rfl (pc2 := 9) ?_
  refine wp_ic jF_129_9 rfl (pc2 := 10) ?_
  refine wp_pi jF_129_10 kd93 (by decide) rfl rfl rfl (pc2 := 13) g2 (lo := 0) (hi := 1752) rfl (by omega) (by omega) ?_
  intro τ4 g5 f6 e7
  refine wp_ic jF_129_13 rfl (pc2 := 14) ?_
  refine wp_is1 (lv2 := [(0, .ref 93), (1, iV 0)]) jF_129_14 rfl rfl rfl (pc2 := 15) ?_
  refine wp_loop (α := Int) (fun a => [(0, .ref 93), (1, iV (a))]) (fun a τ => (0 ≤ a ∧ a ≤ 1752) ∧ GI τ ∧ FR WS τ4 τ ∧ ((τ.1 93 10) ≤ (a))) (fun a τ => Int.toNat (1752 - (a))) (0) τ4 ?_ ?_
  · skip
    have q8 : (τ4.1 93 10) = 0 := e7
    exact ⟨⟨by omega, by omega⟩, g5, FR.rf, (by omega)⟩
  · rintro x9 τ11 ⟨h10, g12, f13, p14⟩ ih15
    have b16 := GI.b g12 93 10 kd93 (lo := 0) (hi := 1752) rfl
    show WP 129 15 [(0, .ref 93), (1, iV x9)] [] _ _ _ _
    show WP 129 15 [(0, .ref 93), (1, iV x9)] [] _ _ _ _
    refine wp_il1 jF_129_15 rfl rfl (pc2 := 16) ?_
    refine wp_al1 jF_129_16 rfl rfl (pc2 := 17) ?_
    have b17 := GI.b g12 93 9 kd93 (lo := 0) (hi := 1752) rfl
    refine wp_gi jF_129_17 kd93 (by decide) rfl rfl rfl (pc2 := 20) ?_
    refine wp_i_ge jF_129_20 (m_rgb h10 rfl) (m_rgb b17 rfl) rfl (pc2 := 23) ?_ ?_
    · intro h18
      refine wp_rv jF_129_111 ?_
      exact ⟨rfl, g12, (FR.up (FR.w (FR.up FR.rf f3 sb_Wc97_WS) f6 rfl) f13 sb_WS_WS)⟩
    · intro h18
      refine wp_al1 jF_129_23 rfl rfl (pc2 := 24) ?_
      refine wp_al1 jF_129_24 rfl rfl (pc2 := 25) ?_
      refine wp_gr (b := 95) jF_129_25 kd93 (by decide) (c := 195) rfl rfl rfl (pc2 := 28) ?_
      refine wp_il1 jF_129_28 rfl rfl (pc2 := 29) ?_
      refine wp_lald (n := 1752) jF_129_29 kd95 (by decide) rfl rfl (by omega) (by omega) rfl (pc2 := 30) ?_
      intro y19
      refine wp_cV (as := [.long y19]) (rest := []) (a := 93) (mx := 6) (ci := 5) jF_129_30 kd93 (by decide) rfl rfl rfl rfl rfl (by omega) (by omega) rfl (pc2 := 33) ?_
      refine wp_use (m_130_r93 τ11 g12 y19  _ _ (by omega) (by omega)) ?_
      rintro _ _ ⟨z22, rfl, h23, rfl⟩
      show WP 129 33 [(0, .ref 93), (1, iV x9)] [iV z22] _ _ _ _
      refine wp_is1 (lv2 := [(0, .ref 93), (1, iV x9), (2, iV z22)]) jF_129_33 rfl rfl rfl (pc2 := 34) ?_
      refine wp_al1 jF_129_34 rfl rfl (pc2 := 35) ?_
      refine wp_gr (b := 97) jF_129_35 kd93 (by decide) (c := 197) rfl rfl rfl (pc2 := 38) ?_
      refine wp_il1 jF_129_38 rfl rfl (pc2 := 39) ?_
      have b24 := GI.b g12 97 z22.toNat kd97 (lo := 0) (hi := 1752) rfl
      refine wp_iald (n := 4096) (e := (τ11.1 97 z22.toNat)) jF_129_39 kd97 (by decide) rfl rfl (by omega) (by omega) rfl rfl (pc2 := 40) ?_
      refine wp_ic jF_129_40 rfl (pc2 := 41) ?_
      refine wp_sub jF_129_41 rfl (pc2 := 42) ?_
      refine wp_is1 (lv2 := [(0, .ref 93), (1, iV x9), (2, iV z22), (3, iV ((τ11.1 97 z22.toNat) - 1))]) jF_129_42 rfl rfl rfl (pc2 := 43) ?_
      refine wp_il1 jF_129_43 rfl rfl (pc2 := 44) ?_
      refine wp_z_ge jF_129_44 ⟨by omega, by omega⟩ rfl (pc2 := 47) ?_ ?_
      · intro h25
        refine wp_al1 jF_129_80 rfl rfl (pc2 := 81) ?_
        refine wp_il1 jF_129_81 rfl rfl (pc2 := 82) ?_
        refine wp_cV (as := [iV x9]) (rest := []) (a := 93) (mx := 3) (ci := 5) jF_129_82 kd93 (by decide) rfl rfl rfl rfl rfl (by omega) (by omega) rfl (pc2 := 85) ?_
        refine wp_use (m_131_r93 τ11 g12 x9 (by omega) (by omega)  _ _ (by omega) (by omega)) ?_
        rintro _ _ ⟨z28, rfl, h29, rfl⟩
        show WP 129 85 [(0, .ref 93), (1, iV x9), (2, iV z22), (3, iV ((τ11.1 97 z22.toNat) - 1))] [iV z28] _ _ _ _
        refine wp_al1 jF_129_85 rfl rfl (pc2 := 86) ?_
        refine wp_al1 jF_129_86 rfl rfl (pc2 := 87) ?_
        refine wp_gr (b := 96) jF_129_87 kd93 (by decide) (c := 196) rfl rfl rfl (pc2 := 90) ?_
        refine wp_il1 jF_129_90 rfl rfl (pc2 := 91) ?_
        have b30 := GI.b g12 96 ((τ11.1 97 z22.toNat) - 1).toNat kd96 (lo := 0) (hi := 1751) rfl
        refine wp_iald (n := 1752) (e := (τ11.1 96 ((τ11.1 97 z22.toNat) - 1).toNat)) jF_129_91 kd96 (by decide) rfl rfl (by omega) (by omega) rfl rfl (pc2 := 92) ?_
        refine wp_cV (as := [iV (τ11.1 96 ((τ11.1 97 z22.toNat) - 1).toNat)]) (rest := [iV z28]) (a := 93) (mx := 3) (ci := 5) jF_129_92 kd93 (by decide) rfl rfl rfl rfl rfl (by omega) (by omega) rfl (pc2 := 95) ?_
        refine wp_use (m_131_r93 τ11 g12 (τ11.1 96 ((τ11.1 97 z22.toNat) - 1).toNat) (by omega) (by omega)  _ _ (by omega) (by omega)) ?_
        rintro _ _ ⟨z33, rfl, h34, rfl⟩
        show WP 129 95 [(0, .ref 93), (1, iV x9), (2, iV z22), (3, iV ((τ11.1 97 z22.toNat) - 1))] [iV z33, iV z28] _ _ _ _
        refine wp_i_ge jF_129_95 (m_rgb h29 rfl) (m_rgb h34 rfl) rfl (pc2 := 98) ?_ ?_
        · intro h35
          refine wp_inc (lv2 := [(0, .ref 93), (1, iV (x9 + 1)), (2, iV z22), (3, iV ((τ11.1 97 z22.toNat) - 1))]) jF_129_105 rfl rfl rfl rfl (pc2 := 108) ?_
          refine wp_go jF_129_108 ?_
          refine wp_less [0, 1] (lv2 := [(0, .ref 93), (1, iV (x9 + 1))]) rfl rfl ?_
          exact ih15 ((x9 + 1)) τ11 ⟨⟨by omega, by omega⟩, g12, f13, (by omega)⟩ (by show Int.toNat (1752 - (x9 + 1)) < Int.toNat (1752 - x9); omega)
        · intro h35
          refine wp_al1 jF_129_98 rfl rfl (pc2 := 99) ?_
          refine wp_gr (b := 96) jF_129_99 kd93 (by decide) (c := 196) rfl rfl rfl (pc2 := 102) ?_
          refine wp_il1 jF_129_102 rfl rfl (pc2 := 103) ?_
          refine wp_il1 jF_129_103 rfl rfl (pc2 := 104) ?_
          refine wp_iast (n := 1752) jF_129_104 kd96 (by decide) rfl rfl (by omega) (by omega) rfl (pc2 := 105) g12 (lo := 0) (hi := 1751) rfl (by omega) (by omega) ?_
          intro τ36 g37 f38 e39
          refine wp_inc (lv2 := [(0, .ref 93), (1, iV (x9 + 1)), (2, iV z22), (3, iV ((τ11.1 97 z22.toNat) - 1))]) jF_129_105 rfl rfl rfl rfl (pc2 := 108) ?_
          refine wp_go jF_129_108 ?_
          have q40 : (τ36.1 93 10) = (τ11.1 93 10) := (FRw.na f38 (by decide))
          refine wp_less [0, 1] (lv2 := [(0, .ref 93), (1, iV (x9 + 1))]) rfl rfl ?_
          exact ih15 ((x9 + 1)) τ36 ⟨⟨by omega, by omega⟩, g37, (FR.w f13 f38 rfl), (by omega)⟩ (by show Int.toNat (1752 - (x9 + 1)) < Int.toNat (1752 - x9); omega)
      · intro h25
        refine wp_al1 jF_129_47 rfl rfl (pc2 := 48) ?_
        refine wp_gr (b := 96) jF_129_48 kd93 (by decide) (c := 196) rfl rfl rfl (pc2 := 51) ?_
        refine wp_al1 jF_129_51 rfl rfl (pc2 := 52) ?_
        refine wp_gi jF_129_52 kd93 (by decide) rfl rfl rfl (pc2 := 55) ?_
        refine wp_il1 jF_129_55 rfl rfl (pc2 := 56) ?_
        refine wp_iast (n := 1752) jF_129_56 kd96 (by decide) rfl rfl (by omega) (by omega) rfl (pc2 := 57) g12 (lo := 0) (hi := 1751) rfl (by omega) (by omega) ?_
        intro τ41 g42 f43 e44
        refine wp_al1 jF_129_57 rfl rfl (pc2 := 58) ?_
        refine wp_dup jF_129_58 rfl rfl (pc2 := 59) ?_
        refine wp_gi jF_129_59 kd93 (by decide) rfl (FRw.na f43 (by decide)) rfl (pc2 := 62) ?_
        refine wp_ic jF_129_62 rfl (pc2 := 63) ?_
        refine wp_add jF_129_63 rfl (pc2 := 64) ?_
        refine wp_pi jF_129_64 kd93 (by decide) rfl rfl rfl (pc2 := 67) g42 (lo := 0) (hi := 1752) rfl (by omega) (by omega) ?_
        intro τ45 g46 f47 e48
        refine wp_al1 jF_129_67 rfl rfl (pc2 := 68) ?_
        refine wp_gr (b := 97) jF_129_68 kd93 (by decide) (c := 197) rfl rfl rfl (pc2 := 71) ?_
        refine wp_il1 jF_129_71 rfl rfl (pc2 := 72) ?_
        refine wp_al1 jF_129_72 rfl rfl (pc2 := 73) ?_
        refine wp_gi jF_129_73 kd93 (by decide) rfl e48 rfl (pc2 := 76) ?_
        refine wp_iast (n := 4096) jF_129_76 kd97 (by decide) rfl rfl (by omega) (by omega) rfl (pc2 := 77) g46 (lo := 0) (hi := 1752) rfl (by omega) (by omega) ?_
        intro τ49 g50 f51 e52
        refine wp_go jF_129_77 ?_
        refine wp_inc (lv2 := [(0, .ref 93), (1, iV (x9 + 1)), (2, iV z22), (3, iV ((τ11.1 97 z22.toNat) - 1))]) jF_129_105 rfl rfl rfl rfl (pc2 := 108) ?_
        refine wp_go jF_129_108 ?_
        have q53 : (τ49.1 93 10) = ((τ11.1 93 10) + 1) := ((FRw.na f51 (by decide)).trans e48)
        refine wp_less [0, 1] (lv2 := [(0, .ref 93), (1, iV (x9 + 1))]) rfl rfl ?_
        exact ih15 ((x9 + 1)) τ49 ⟨⟨by omega, by omega⟩, g50, (FR.w (FR.w (FR.w f13 f43 rfl) f47 rfl) f51 rfl), (by omega)⟩ (by show Int.toNat (1752 - (x9 + 1)) < Int.toNat (1752 - x9); omega)
set_option maxHeartbeats 4000000 in
set_option maxRecDepth 20000 in
/-- Shorts.gatherFitting -/
theorem m_132_r93_20 (σ : jM) (hg : GI σ)   (fr lo : Nat) (hfr : 1 ≤ fr) (hlo : 22 ≤ lo) : WP 132 0 (lv_args 0 [.ref 93, .ref 20]) [] fr lo σ (fun v τ => v = none ∧ GI τ ∧ FR WS σ τ) := by
  show WP 132 0 [(0, .ref 93), (1, .ref 20)] [] _ _ _ _
  refine wp_al1 jF_132_0 rfl rfl (pc2 := 1) ?_
  refine wp_ic jF_132_1 rfl (pc2 := 2) ?_
  refine wp_pi jF_132_2 kd93 (by decide) rfl rfl rfl (pc2 := 5) hg (lo := (-2147483648)) (hi := 2147483647) rfl (by omega) (by omega) ?_
  intro τ1 g2 f3 e4
  refine wp_al1 jF_132_5 rfl rfl (pc2 := 6) ?_
  refine wp_al1 jF_132_6 rfl rfl (pc2 := 7) ?_
  refine wp_glA jF_132_7 kd20 (by decide) rfl rfl (pc2 := 10) ?_
  intro y5
  refine wp_pl jF_132_10 kd93 (by decide) rfl rfl (pc2 := 13) g2 ?_
  intro τ6 g7 f8
  refine wp_al1 jF_132_13 rfl rfl (pc2 := 14) ?_
  refine wp_lc jF_132_14 rfl (pc2 := 15) ?_
  refine wp_pl jF_132_15 kd93 (by decide) rfl rfl (pc2 := 18) g7 ?_
  intro τ9 g10 f11
  refine wp_ic jF_132_18 rfl (pc2 := 19) ?_
  refine wp_is1 (lv2 := [(0, .ref 93), (1, .ref 20), (2, iV 0)]) jF_132_19 rfl rfl rfl (pc2 := 20) ?_
  refine wp_loop (α := Int) (fun a => [(0, .ref 93), (1, .ref 20), (2, iV (a))]) (fun a τ => (0 ≤ a ∧ a ≤ 1752) ∧ GI τ ∧ FR WS τ9 τ) (fun a τ => Int.toNat (1752 - (a))) (0) τ9 ?_ ?_
  · skip
    exact ⟨⟨by omega, by omega⟩, g10, FR.rf⟩
  · rintro x12 τ14 ⟨h13, g15, f16⟩ ih17
    show WP 132 20 [(0, .ref 93), (1, .ref 20), (2, iV x12)] [] _ _ _ _
    show WP 132 20 [(0, .ref 93), (1, .ref 20), (2, iV x12)] [] _ _ _ _
    refine wp_il1 jF_132_20 rfl rfl (pc2 := 21) ?_
    refine wp_al1 jF_132_21 rfl rfl (pc2 := 22) ?_
    have b18 := GI.b g15 93 9 kd93 (lo := 0) (hi := 1752) rfl
    refine wp_gi jF_132_22 kd93 (by decide) rfl rfl rfl (pc2 := 25) ?_
    refine wp_i_ge jF_132_25 (m_rgb h13 rfl) (m_rgb b18 rfl) rfl (pc2 := 28) ?_ ?_
    · intro h19
      refine wp_rv jF_132_90 ?_
      exact ⟨rfl, g15, (FR.up (FR.w (FR.w (FR.w FR.rf f3 rfl) f8 rfl) f11 rfl) f16 sb_WS_WS)⟩
    · intro h19
      refine wp_al1 jF_132_28 rfl rfl (pc2 := 29) ?_
      refine wp_gr (b := 39) jF_132_29 kd20 (by decide) (c := 22) rfl rfl rfl (pc2 := 32) ?_
      refine wp_al1 jF_132_32 rfl rfl (pc2 := 33) ?_
      refine wp_gr (b := 95) jF_132_33 kd93 (by decide) (c := 195) rfl rfl rfl (pc2 := 36) ?_
      refine wp_il1 jF_132_36 rfl rfl (pc2 := 37) ?_
      refine wp_lald (n := 1752) jF_132_37 kd95 (by decide) rfl rfl (by omega) (by omega) rfl (pc2 := 38) ?_
      intro y20
      refine wp_cV (as := [.long y20]) (rest := []) (a := 39) (mx := 3) (ci := 7) jF_132_38 kd39 (by decide) rfl rfl rfl rfl rfl (by omega) (by omega) rfl (pc2 := 41) ?_
      refine wp_use (m_86_r39 τ14 g15 y20  _ _ (by omega) (by omega)) ?_
      rintro _ _ ⟨z23, rfl, h24, rfl⟩
      show WP 132 41 [(0, .ref 93), (1, .ref 20), (2, iV x12)] [iV z23] _ _ _ _
      refine wp_z_eq jF_132_41 (m_rgb h24 rfl) rfl (pc2 := 44) ?_ ?_
      · intro h25
        refine wp_inc (lv2 := [(0, .ref 93), (1, .ref 20), (2, iV (x12 + 1))]) jF_132_84 rfl rfl rfl rfl (pc2 := 87) ?_
        refine wp_go jF_132_87 ?_
        exact ih17 ((x12 + 1)) τ14 ⟨⟨by omega, by omega⟩, g15, f16⟩ (by show Int.toNat (1752 - (x12 + 1)) < Int.toNat (1752 - x12); omega)
      · intro h25
        refine wp_al1 jF_132_44 rfl rfl (pc2 := 45) ?_
        refine wp_dup jF_132_45 rfl rfl (pc2 := 46) ?_
        have b26 := GI.b g15 93 11 kd93 (lo := (-2147483648)) (hi := 2147483647) rfl
        refine wp_gi jF_132_46 kd93 (by decide) rfl rfl rfl (pc2 := 49) ?_
        refine wp_ic jF_132_49 rfl (pc2 := 50) ?_
        refine wp_any2 (pc2 := 51) jF_132_50 rfl rfl ?_
        intro z27 h28
        refine wp_pi jF_132_51 kd93 (by decide) rfl rfl rfl (pc2 := 54) g15 (lo := (-2147483648)) (hi := 2147483647) rfl (by omega) (by omega) ?_
        intro τ29 g30 f31 e32
        refine wp_al1 jF_132_54 rfl rfl (pc2 := 55) ?_
        refine wp_dup jF_132_55 rfl rfl (pc2 := 56) ?_
        refine wp_glA jF_132_56 kd93 (by decide) rfl rfl (pc2 := 59) ?_
        intro y33
        refine wp_al1 jF_132_59 rfl rfl (pc2 := 60) ?_
        refine wp_gr (b := 95) jF_132_60 kd93 (by decide) (c := 195) rfl rfl rfl (pc2 := 63) ?_
        refine wp_il1 jF_132_63 rfl rfl (pc2 := 64) ?_
        refine wp_lald (n := 1752) jF_132_64 kd95 (by decide) rfl rfl (by omega) (by omega) rfl (pc2 := 65) ?_
        intro y34
        refine wp_lng (pc2 := 66) jF_132_65 rfl rfl ?_
        intro y35
        refine wp_pl jF_132_66 kd93 (by decide) rfl rfl (pc2 := 69) g30 ?_
        intro τ36 g37 f38
        refine wp_al1 jF_132_69 rfl rfl (pc2 := 70) ?_
        refine wp_dup jF_132_70 rfl rfl (pc2 := 71) ?_
        refine wp_glA jF_132_71 kd93 (by decide) rfl rfl (pc2 := 74) ?_
        intro y39
        refine wp_al1 jF_132_74 rfl rfl (pc2 := 75) ?_
        refine wp_gr (b := 95) jF_132_75 kd93 (by decide) (c := 195) rfl rfl rfl (pc2 := 78) ?_
        refine wp_il1 jF_132_78 rfl rfl (pc2 := 79) ?_
        refine wp_lald (n := 1752) jF_132_79 kd95 (by decide) rfl rfl (by omega) (by omega) rfl (pc2 := 80) ?_
        intro y40
        refine wp_lng (pc2 := 81) jF_132_80 rfl rfl ?_
        intro y41
        refine wp_pl jF_132_81 kd93 (by decide) rfl rfl (pc2 := 84) g37 ?_
        intro τ42 g43 f44
        refine wp_inc (lv2 := [(0, .ref 93), (1, .ref 20), (2, iV (x12 + 1))]) jF_132_84 rfl rfl rfl rfl (pc2 := 87) ?_
        refine wp_go jF_132_87 ?_
        exact ih17 ((x12 + 1)) τ42 ⟨⟨by omega, by omega⟩, g43, (FR.w (FR.w (FR.w f16 f31 rfl) f38 rfl) f44 rfl)⟩ (by show Int.toNat (1752 - (x12 + 1)) < Int.toNat (1752 - x12); omega)
set_option maxHeartbeats 4000000 in
set_option maxRecDepth 20000 in
/-- Shorts.prepare -/
theorem m_126_r93_20 (σ : jM) (hg : GI σ)   (fr lo : Nat) (hfr : 2 ≤ fr) (hlo : 48 ≤ lo) : WP 126 0 (lv_args 0 [.ref 93, .ref 20]) [] fr lo σ (fun v τ => v = none ∧ GI τ ∧ FR WS σ τ) := by
  show WP 126 0 [(0, .ref 93), (1, .ref 20)] [] _ _ _ _
  refine wp_al1 jF_126_0 rfl rfl (pc2 := 1) ?_
  have b1 := GI.b hg 93 14 kd93 (lo := 0) (hi := 1) rfl
  refine wp_gi jF_126_1 kd93 (by decide) rfl rfl rfl (pc2 := 4) ?_
  refine wp_z_eq jF_126_4 (m_rgb b1 rfl) rfl (pc2 := 7) ?_ ?_
  · intro h2
    refine wp_al1 jF_126_8 rfl rfl (pc2 := 9) ?_
    refine wp_ic jF_126_9 rfl (pc2 := 10) ?_
    refine wp_pi jF_126_10 kd93 (by decide) rfl rfl rfl (pc2 := 13) hg (lo := 0) (hi := 1) rfl (by omega) (by omega) ?_
    intro τ3 g4 f5 e6
    refine wp_al1 jF_126_13 rfl rfl (pc2 := 14) ?_
    refine wp_al1 jF_126_14 rfl rfl (pc2 := 15) ?_
    refine wp_cV (as := [.ref 20]) (rest := []) (a := 93) (mx := 3) (ci := 5) jF_126_15 kd93 (by decide) rfl rfl rfl rfl rfl (by omega) (by omega) rfl (pc2 := 18) ?_
    refine wp_use (m_127_r93_20 τ3 g4   _ _ (by omega) (by omega)) ?_
    rintro _ τ7 ⟨rfl, g8, f9⟩
    show WP 126 18 [(0, .ref 93), (1, .ref 20)] [] _ _ _ _
    refine wp_al1 jF_126_18 rfl rfl (pc2 := 19) ?_
    refine wp_cV (as := []) (rest := []) (a := 93) (mx := 3) (ci := 5) jF_126_19 kd93 (by decide) rfl rfl rfl rfl rfl (by omega) (by omega) rfl (pc2 := 22) ?_
    refine wp_use (m_128_r93 τ7 g8   _ _ (by omega) (by omega)) ?_
    rintro _ τ10 ⟨rfl, g11, f12⟩
    show WP 126 22 [(0, .ref 93), (1, .ref 20)] [] _ _ _ _
    refine wp_al1 jF_126_22 rfl rfl (pc2 := 23) ?_
    refine wp_cV (as := []) (rest := []) (a := 93) (mx := 4) (ci := 5) jF_126_23 kd93 (by decide) rfl rfl rfl rfl rfl (by omega) (by omega) rfl (pc2 := 26) ?_
    refine wp_use (m_129_r93 τ10 g11   _ _ (by omega) (by omega)) ?_
    rintro _ τ13 ⟨rfl, g14, f15⟩
    show WP 126 26 [(0, .ref 93), (1, .ref 20)] [] _ _ _ _
    refine wp_al1 jF_126_26 rfl rfl (pc2 := 27) ?_
    refine wp_al1 jF_126_27 rfl rfl (pc2 := 28) ?_
    refine wp_cV (as := [.ref 20]) (rest := []) (a := 93) (mx := 3) (ci := 5) jF_126_28 kd93 (by decide) rfl rfl rfl rfl rfl (by omega) (by omega) rfl (pc2 := 31) ?_
    refine wp_use (m_132_r93_20 τ13 g14   _ _ (by omega) (by omega)) ?_
    rintro _ τ16 ⟨rfl, g17, f18⟩
    show WP 126 31 [(0, .ref 93), (1, .ref 20)] [] _ _ _ _
    refine wp_rv jF_126_31 ?_
    exact ⟨rfl, g17, (FR.up (FR.up (FR.up (FR.up (FR.w FR.rf f5 rfl) f9 sb_WS_WS) f12 sb_WS_WS) f15 sb_WS_WS) f18 sb_WS_WS)⟩
  · intro h2
    refine wp_rv jF_126_7 ?_
    exact ⟨rfl, hg, FR.rf⟩
set_option maxHeartbeats 4000000 in
set_option maxRecDepth 20000 in
/-- Shorts.total -/
theorem m_141_r93_20 (σ : jM) (hg : GI σ)   (fr lo : Nat) (hfr : 3 ≤ fr) (hlo : 69 ≤ lo) : WP 141 0 (lv_args 0 [.ref 93, .ref 20]) [] fr lo σ (fun v τ => ∃ z : Int, v = some (iV z) ∧ ((-2147483648) ≤ z ∧ z ≤ 2147483647) ∧ GI τ ∧ FR WS σ τ) := by
  show WP 141 0 [(0, .ref 93), (1, .ref 20)] [] _ _ _ _
  refine wp_al1 jF_141_0 rfl rfl (pc2 := 1) ?_
  refine wp_al1 jF_141_1 rfl rfl (pc2 := 2) ?_
  refine wp_cV (as := [.ref 20]) (rest := []) (a := 93) (mx := 2) (ci := 5) jF_141_2 kd93 (by decide) rfl rfl rfl rfl rfl (by omega) (by omega) rfl (pc2 := 5) ?_
  refine wp_use (m_126_r93_20 σ hg   _ _ (by omega) (by omega)) ?_
  rintro _ τ1 ⟨rfl, g2, f3⟩
  show WP 141 5 [(0, .ref 93), (1, .ref 20)] [] _ _ _ _
  refine wp_al1 jF_141_5 rfl rfl (pc2 := 6) ?_
  have b4 := GI.b g2 93 9 kd93 (lo := 0) (hi := 1752) rfl
  refine wp_gi jF_141_6 kd93 (by decide) rfl rfl rfl (pc2 := 9) ?_
  refine wp_ri jF_141_9 rfl ?_
  exact ⟨(τ1.1 93 9), rfl, ⟨by omega, by omega⟩, g2, f3⟩
