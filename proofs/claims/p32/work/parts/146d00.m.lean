set_option maxHeartbeats 4000000 in
set_option maxRecDepth 20000 in
/-- M.keeps -/
theorem m_262 (σ : jM) (hg : GI σ)  (pre0 : (kp σ) = 1) (pre1 : (l0 σ) = 22) (fr lo : Nat) (hfr : 0 ≤ fr) (hlo : 0 ≤ lo) : WP 262 0 (lv_args 0 [.ref 117]) [] fr lo σ (fun v τ => v = none ∧ GI τ ∧ FR Wkeep σ τ ∧ ((kp τ) = 1)) := by
  show WP 262 0 [(0, .ref 117)] [] _ _ _ _
  refine wp_al1 jF_262_0 rfl rfl (pc2 := 1) ?_
  refine wp_al1 jF_262_1 rfl rfl (pc2 := 2) ?_
  have b1 := GI.b hg 117 53 kd117 (lo := 0) (hi := 19) rfl
  refine wp_gi jF_262_2 kd117 (by decide) rfl rfl rfl (pc2 := 5) ?_
  refine wp_ic jF_262_5 rfl (pc2 := 6) ?_
  refine wp_add jF_262_6 rfl (pc2 := 7) ?_
  refine wp_bi jF_262_7 (by decide) rfl (pc2 := 9) ?_
  refine wp_rem jF_262_9 ⟨by omega, by omega⟩ (by omega) (m_rgl rfl) (by omega) rfl (pc2 := 10) ?_
  refine wp_pi jF_262_10 kd117 (by decide) rfl rfl rfl (pc2 := 13) hg (lo := 0) (hi := 19) rfl (by omega) (by omega) ?_
  intro τ2 g3 f4 e5
  refine wp_al1 jF_262_13 rfl rfl (pc2 := 14) ?_
  refine wp_gr (b := 151) jF_262_14 kd117 (by decide) (c := 251) rfl rfl rfl (pc2 := 17) ?_
  refine wp_al1 jF_262_17 rfl rfl (pc2 := 18) ?_
  refine wp_gi jF_262_18 kd117 (by decide) rfl e5 rfl (pc2 := 21) ?_
  refine wp_al1 jF_262_21 rfl rfl (pc2 := 22) ?_
  refine wp_gr (b := 148) jF_262_22 kd117 (by decide) (c := 248) rfl rfl rfl (pc2 := 25) ?_
  refine wp_ic jF_262_25 rfl (pc2 := 26) ?_
  have b6 := GI.b hg 148 0 kd148 (lo := 0) (hi := 60) rfl
  refine wp_iald (n := 2) (e := (σ.1 148 0)) jF_262_26 kd148 (by decide) rfl rfl (by omega) (by omega) (FRw.na f4 (by decide)) rfl (pc2 := 27) ?_
  refine wp_iast (n := 20) jF_262_27 kd151 (by decide) rfl rfl (by omega) (by omega) rfl (pc2 := 28) g3 (lo := 0) (hi := 60) rfl (by omega) (by omega) ?_
  intro τ7 g8 f9 e10
  refine wp_ic jF_262_28 rfl (pc2 := 29) ?_
  refine wp_is1 (lv2 := [(0, .ref 117), (1, iV 0)]) jF_262_29 rfl rfl rfl (pc2 := 30) ?_
  refine wp_loop (α := Int) (fun a => [(0, .ref 117), (1, iV (a))]) (fun a τ => (0 ≤ a ∧ a ≤ 60) ∧ GI τ ∧ FR Wkp τ7 τ ∧ ((a) ≤ (σ.1 148 0)) ∧ (CPK σ τ (((σ.1 117 53) + 1) % 20) (a)) ∧ (KX τ (((σ.1 117 53) + 1) % 20))) (fun a τ => Int.toNat (60 - (a))) (0) τ7 ?_ ?_
  · skip
    exact ⟨⟨by omega, by omega⟩, g8, FR.rf, (by omega), (Or.inl rfl), (kx_in f4 f9 (kpf_o (P := KP σ) pre0) (by omega))⟩
  · rintro x11 τ13 ⟨h12, g14, f15, p16, p17, p18⟩ ih19
    show WP 262 30 [(0, .ref 117), (1, iV x11)] [] _ _ _ _
    show WP 262 30 [(0, .ref 117), (1, iV x11)] [] _ _ _ _
    refine wp_il1 jF_262_30 rfl rfl (pc2 := 31) ?_
    refine wp_al1 jF_262_31 rfl rfl (pc2 := 32) ?_
    refine wp_gr (b := 148) jF_262_32 kd117 (by decide) (c := 248) rfl rfl rfl (pc2 := 35) ?_
    refine wp_ic jF_262_35 rfl (pc2 := 36) ?_
    refine wp_iald (n := 2) (e := (σ.1 148 0)) jF_262_36 kd148 (by decide) rfl rfl (by omega) (by omega) ((FR.at f15 148 0 rfl).trans ((FRw.na f9 (by decide)).trans (FRw.na f4 (by decide)))) rfl (pc2 := 37) ?_
    refine wp_i_ge jF_262_37 (m_rgb h12 rfl) (m_rgb b6 rfl) rfl (pc2 := 40) ?_ ?_
    · intro h20
      refine wp_al1 jF_262_66 rfl rfl (pc2 := 67) ?_
      have b21 := GI.b hg 117 52 kd117 (lo := 0) (hi := 20) rfl
      refine wp_gi jF_262_67 kd117 (by decide) rfl ((FR.at f15 117 52 rfl).trans ((FRw.na f9 (by decide)).trans (FRw.nj f4 (by decide)))) rfl (pc2 := 70) ?_
      refine wp_bi jF_262_70 (by decide) rfl (pc2 := 72) ?_
      refine wp_i_ge jF_262_72 (m_rgb b21 rfl) (m_rgl rfl) rfl (pc2 := 75) ?_ ?_
      · intro h22
        refine wp_rv jF_262_85 ?_
        exact ⟨rfl, g14, (FR.up (FR.w (FR.w FR.rf f4 rfl) f9 rfl) f15 sb_Wkp_Wkeep), (by have e : kp τ13 = 1 := kpf_1 (kp_out (k := x11) p18 (by omega) (((FR.at f15 151 (((σ.1 117 53) + 1) % 20).toNat rfl).trans e10).trans (by omega)) p17 pre1 (by omega)); omega)⟩
      · intro h22
        refine wp_al1 jF_262_75 rfl rfl (pc2 := 76) ?_
        refine wp_dup jF_262_76 rfl rfl (pc2 := 77) ?_
        refine wp_gi jF_262_77 kd117 (by decide) rfl ((FR.at f15 117 52 rfl).trans ((FRw.na f9 (by decide)).trans (FRw.nj f4 (by decide)))) rfl (pc2 := 80) ?_
        refine wp_ic jF_262_80 rfl (pc2 := 81) ?_
        refine wp_add jF_262_81 rfl (pc2 := 82) ?_
        refine wp_pi jF_262_82 kd117 (by decide) rfl rfl rfl (pc2 := 85) g14 (lo := 0) (hi := 20) rfl (by omega) (by omega) ?_
        intro τ23 g24 f25 e26
        refine wp_rv jF_262_85 ?_
        have q27 : (kp τ23) = (kp τ13) := (kp_wr f25 (by decide))
        exact ⟨rfl, g24, (FR.w (FR.up (FR.w (FR.w FR.rf f4 rfl) f9 rfl) f15 sb_Wkp_Wkeep) f25 rfl), (by have e : kp τ13 = 1 := kpf_1 (kp_out (k := x11) p18 (by omega) (((FR.at f15 151 (((σ.1 117 53) + 1) % 20).toNat rfl).trans e10).trans (by omega)) p17 pre1 (by omega)); omega)⟩
    · intro h20
      refine wp_al1 jF_262_40 rfl rfl (pc2 := 41) ?_
      refine wp_gr (b := 150) jF_262_41 kd117 (by decide) (c := 250) rfl rfl rfl (pc2 := 44) ?_
      refine wp_bi jF_262_44 (by decide) rfl (pc2 := 46) ?_
      refine wp_al1 jF_262_46 rfl rfl (pc2 := 47) ?_
      refine wp_gi jF_262_47 kd117 (by decide) rfl ((FR.at f15 117 53 rfl).trans ((FRw.na f9 (by decide)).trans e5)) rfl (pc2 := 50) ?_
      refine wp_mul jF_262_50 rfl (pc2 := 51) ?_
      refine wp_il1 jF_262_51 rfl rfl (pc2 := 52) ?_
      refine wp_add jF_262_52 rfl (pc2 := 53) ?_
      refine wp_al1 jF_262_53 rfl rfl (pc2 := 54) ?_
      refine wp_gr (b := 147) jF_262_54 kd117 (by decide) (c := 247) rfl rfl rfl (pc2 := 57) ?_
      refine wp_il1 jF_262_57 rfl rfl (pc2 := 58) ?_
      have b28 := GI.b hg 147 x11.toNat kd147 (lo := 0) (hi := 255) rfl
      refine wp_iald (n := 128) (e := (σ.1 147 x11.toNat)) jF_262_58 kd147 (by decide) rfl rfl (by omega) (by omega) ((FR.at f15 147 x11.toNat rfl).trans ((FRw.na f9 (by decide)).trans (FRw.na f4 (by decide)))) rfl (pc2 := 59) ?_
      refine wp_iast (n := 1280) jF_262_59 kd150 (by decide) rfl rfl (by omega) (by omega) rfl (pc2 := 60) g14 (lo := 0) (hi := 255) rfl (by omega) (by omega) ?_
      intro τ29 g30 f31 e32
      refine wp_inc (lv2 := [(0, .ref 117), (1, iV (x11 + 1))]) jF_262_60 rfl rfl rfl rfl (pc2 := 63) ?_
      refine wp_go jF_262_63 ?_
      exact ih19 ((x11 + 1)) τ29 ⟨⟨by omega, by omega⟩, g30, (FR.w f15 f31 rfl), (by omega), (Or.inr (by have e := e32; rw [show (x11 + 1 - 1 : Int) = x11 by omega]; exact e)), (kx_w p18 f31 (k := x11) (by omega) (by omega) (by omega) (fun i => GI.b g14 151 i kd151 (lo := 0) (hi := 60) rfl))⟩ (by show Int.toNat (60 - (x11 + 1)) < Int.toNat (60 - x11); omega)
