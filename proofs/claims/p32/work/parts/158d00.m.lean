set_option maxHeartbeats 4000000 in
set_option maxRecDepth 20000 in
/-- M.qCode -/
theorem m_329 (σ : jM) (hg : GI σ) (c : Int) (hl_c : (-2147483648) ≤ c) (hu_c : c ≤ 2147483647) (pre0 : (σ.1 117 87) ≤ 1689) (fr lo : Nat) (hfr : 0 ≤ fr) (hlo : 0 ≤ lo) : WP 329 0 (lv_args 0 [.ref 117, iV c]) [] fr lo σ (fun v τ => v = none ∧ GI τ ∧ FR Wqc σ τ ∧ ((τ.1 117 87) = (σ.1 117 87) + 1) ∧ ((1000 ≤ c ∨ (40 ≤ c ∧ c ≤ 59) ∨ c = 13) → 0 ≤ (dp σ) → (dp τ) = (dp σ) + 1) ∧ (((60 ≤ c ∧ c ≤ 999) ∨ c = 12) → 1 ≤ (dp σ) → (dp τ) = (dp σ)) ∧ ((c ≤ 11 ∨ (14 ≤ c ∧ c ≤ 39)) → 2 ≤ (dp σ) → (dp τ) = (dp σ) - 1)) := by
  show WP 329 0 [(0, .ref 117), (1, iV c)] [] _ _ _ _
  refine wp_al1 jF_329_0 rfl rfl (pc2 := 1) ?_
  refine wp_gr (b := 176) jF_329_1 kd117 (by decide) (c := 276) rfl rfl rfl (pc2 := 4) ?_
  refine wp_al1 jF_329_4 rfl rfl (pc2 := 5) ?_
  have b1 := GI.b hg 117 87 kd117 (lo := 0) (hi := 1690) rfl
  refine wp_gi jF_329_5 kd117 (by decide) rfl rfl rfl (pc2 := 8) ?_
  refine wp_il1 jF_329_8 rfl rfl (pc2 := 9) ?_
  refine wp_iast (n := 1700) jF_329_9 kd176 (by decide) rfl rfl (by omega) (by omega) rfl (pc2 := 10) hg (lo := (-2147483648)) (hi := 2147483647) rfl (by omega) (by omega) ?_
  intro τ2 g3 f4 e5
  refine wp_al1 jF_329_10 rfl rfl (pc2 := 11) ?_
  refine wp_dup jF_329_11 rfl rfl (pc2 := 12) ?_
  refine wp_gi jF_329_12 kd117 (by decide) rfl (FRw.na f4 (by decide)) rfl (pc2 := 15) ?_
  refine wp_ic jF_329_15 rfl (pc2 := 16) ?_
  refine wp_add jF_329_16 rfl (pc2 := 17) ?_
  refine wp_pi jF_329_17 kd117 (by decide) rfl rfl rfl (pc2 := 20) g3 (lo := 0) (hi := 1690) rfl (by omega) (by omega) ?_
  intro τ6 g7 f8 e9
  refine wp_rv jF_329_20 ?_
  have q10 : (τ6.1 117 87) = ((σ.1 117 87) + 1) := e9
  exact ⟨rfl, g7, (FR.w (FR.w FR.rf f4 rfl) f8 rfl), (by omega), (by have e := dp_push f4 e5 rfl f8 e9 (by omega); have d := stp_e (d := dp σ) (c := c); omega), (by have e := dp_push f4 e5 rfl f8 e9 (by omega); have d := stp_e (d := dp σ) (c := c); omega), (by have e := dp_push f4 e5 rfl f8 e9 (by omega); have d := stp_e (d := dp σ) (c := c); omega)⟩
set_option maxHeartbeats 4000000 in
set_option maxRecDepth 20000 in
/-- M.qDrops -/
theorem m_336_s (σ : jM) (hg : GI σ)  (pre0 : (σ.1 117 87) ≤ 1689) (pre1 : (wk σ) = 1) (pre2 : 1 ≤ (σ.1 117 89)) (pre3 : (σ.1 117 91) < (σ.1 117 89)) (pre4 : ((tq σ) < 20 ∨ 24 < (tq σ))) (pre5 : (ws σ) < (dp σ)) (fr lo : Nat) (hfr : 1 ≤ fr) (hlo : 21 ≤ lo) : WP 336 0 (lv_args 0 [.ref 117]) [] fr lo σ (fun v τ => v = none ∧ GI τ ∧ FR Wqd σ τ ∧ ((τ.1 117 89) = (σ.1 117 89) - 1) ∧ ((τ.1 117 87) = (σ.1 117 87) + 1) ∧ ((wk τ) = 1) ∧ ((qb τ) = (qb σ)) ∧ ((dp τ) - (ws τ) = (dp σ) - (ws σ))) := by
  show WP 336 0 [(0, .ref 117)] [] _ _ _ _
  refine wp_al1 jF_336_0 rfl rfl (pc2 := 1) ?_
  refine wp_dup jF_336_1 rfl rfl (pc2 := 2) ?_
  have b1 := GI.b hg 117 89 kd117 (lo := 0) (hi := 1690) rfl
  refine wp_gi jF_336_2 kd117 (by decide) rfl rfl rfl (pc2 := 5) ?_
  refine wp_ic jF_336_5 rfl (pc2 := 6) ?_
  refine wp_sub jF_336_6 rfl (pc2 := 7) ?_
  refine wp_pi jF_336_7 kd117 (by decide) rfl rfl rfl (pc2 := 10) hg (lo := 0) (hi := 1690) rfl (by omega) (by omega) ?_
  intro τ2 g3 f4 e5
  refine wp_al1 jF_336_10 rfl rfl (pc2 := 11) ?_
  refine wp_al1 jF_336_11 rfl rfl (pc2 := 12) ?_
  refine wp_gr (b := 177) jF_336_12 kd117 (by decide) (c := 277) rfl rfl rfl (pc2 := 15) ?_
  refine wp_al1 jF_336_15 rfl rfl (pc2 := 16) ?_
  refine wp_gi jF_336_16 kd117 (by decide) rfl e5 rfl (pc2 := 19) ?_
  have b6 := GI.b hg 177 ((σ.1 117 89) - 1).toNat kd177 (lo := (-2147483648)) (hi := 2147483647) rfl
  refine wp_iald (n := 1700) (e := (σ.1 177 ((σ.1 117 89) - 1).toNat)) jF_336_19 kd177 (by decide) rfl rfl (by omega) (by omega) (FRw.na f4 (by decide)) rfl (pc2 := 20) ?_
  refine wp_cV (as := [iV (σ.1 177 ((σ.1 117 89) - 1).toNat)]) (rest := []) (a := 117) (mx := 2) (ci := 12) jF_336_20 kd117 (by decide) rfl rfl rfl rfl rfl (by omega) (by omega) rfl (pc2 := 23) ?_
  have q7 : (dp τ2) = (dp σ) := (dp_wr f4 (by decide))
  have b8 := GI.b hg 117 87 kd117 (lo := 0) (hi := 1690) rfl
  have q9 : (τ2.1 117 87) = (σ.1 117 87) := (FRw.nj f4 (by decide))
  refine wp_use (m_329 τ2 g3 (σ.1 177 ((σ.1 117 89) - 1).toNat) (by omega) (by omega) (by omega) _ _ (by omega) (by omega)) ?_
  rintro _ τ14 ⟨rfl, g15, f16, p10, p11, p12, p13⟩
  show WP 336 23 [(0, .ref 117)] [] _ _ _ _
  refine wp_rv jF_336_23 ?_
  have q17 := ws_nn (σ := τ2)
  have q18 : (ws τ14) = (ws τ2) := (ws_fr f16 (fun _ => rfl) rfl)
  have q19 : (wk τ14) = (wk τ2) := (wk_fr f16 (fun _ => rfl) rfl rfl)
  have q20 : (qb τ14) = (qb τ2) := (qb_fr f16 (fun _ => rfl) rfl rfl)
  have b21 := GI.b g15 117 87 kd117 (lo := 0) (hi := 1690) rfl
  have q22 : (τ14.1 117 89) = ((σ.1 117 89) - 1) := ((FR.at f16 117 89 rfl).trans e5)
  have q23 := ws_nn (σ := σ)
  have b24 := GI.b hg 117 91 kd117 (lo := 0) (hi := 1690) rfl
  have q25 : (tq σ) = (σ.1 177 ((σ.1 117 89) - 1).toNat) := ((tq_e (σ := σ)).trans (congrArg (fun z : Int => σ.1 177 (z - 1).toNat) (show (σ.1 117 89) = (σ.1 117 89) from rfl))).trans rfl
  have q26 := pop f4 e5 (by omega)
  exact ⟨rfl, g15, (FR.up (FR.w FR.rf f4 rfl) f16 sb_Wqc_Wqd), (by omega), (by omega), (by have a := ws_nn (σ := τ14); have t1 := ws_top (σ := σ) (by omega); have t2 := wgt_e (c := tq σ); have t3 := wsf_nn (f := fun j => σ.1 177 j) (n := (σ.1 117 89 - 1).toNat); have w := wk_tq (σ := σ) (by omega) (by omega); omega), (by have a := ws_nn (σ := τ14); have t1 := ws_top (σ := σ) (by omega); have t2 := wgt_e (c := tq σ); have t3 := wsf_nn (f := fun j => σ.1 177 j) (n := (σ.1 117 89 - 1).toNat); have w := wk_tq (σ := σ) (by omega) (by omega); omega), (by have a := ws_nn (σ := τ14); have t1 := ws_top (σ := σ) (by omega); have t2 := wgt_e (c := tq σ); have t3 := wsf_nn (f := fun j => σ.1 177 j) (n := (σ.1 117 89 - 1).toNat); have w := wk_tq (σ := σ) (by omega) (by omega); omega)⟩
set_option maxHeartbeats 4000000 in
set_option maxRecDepth 20000 in
/-- M.qDrops -/
theorem m_336_t (σ : jM) (hg : GI σ)  (pre0 : (σ.1 117 87) ≤ 1689) (pre1 : (tt σ) = 1) (pre2 : 1 ≤ (σ.1 117 89)) (pre3 : (tq σ) ≠ 25) (pre4 : (ws σ) < (dp σ)) (fr lo : Nat) (hfr : 1 ≤ fr) (hlo : 21 ≤ lo) : WP 336 0 (lv_args 0 [.ref 117]) [] fr lo σ (fun v τ => v = none ∧ GI τ ∧ FR Wqd σ τ ∧ ((τ.1 117 89) = (σ.1 117 89) - 1) ∧ ((τ.1 117 87) = (σ.1 117 87) + 1) ∧ ((tt τ) = 1) ∧ ((sq τ) = (sq σ)) ∧ ((dp τ) - (ws τ) = (dp σ) - (ws σ))) := by
  show WP 336 0 [(0, .ref 117)] [] _ _ _ _
  refine wp_al1 jF_336_0 rfl rfl (pc2 := 1) ?_
  refine wp_dup jF_336_1 rfl rfl (pc2 := 2) ?_
  have b1 := GI.b hg 117 89 kd117 (lo := 0) (hi := 1690) rfl
  refine wp_gi jF_336_2 kd117 (by decide) rfl rfl rfl (pc2 := 5) ?_
  refine wp_ic jF_336_5 rfl (pc2 := 6) ?_
  refine wp_sub jF_336_6 rfl (pc2 := 7) ?_
  refine wp_pi jF_336_7 kd117 (by decide) rfl rfl rfl (pc2 := 10) hg (lo := 0) (hi := 1690) rfl (by omega) (by omega) ?_
  intro τ2 g3 f4 e5
  refine wp_al1 jF_336_10 rfl rfl (pc2 := 11) ?_
  refine wp_al1 jF_336_11 rfl rfl (pc2 := 12) ?_
  refine wp_gr (b := 177) jF_336_12 kd117 (by decide) (c := 277) rfl rfl rfl (pc2 := 15) ?_
  refine wp_al1 jF_336_15 rfl rfl (pc2 := 16) ?_
  refine wp_gi jF_336_16 kd117 (by decide) rfl e5 rfl (pc2 := 19) ?_
  have b6 := GI.b hg 177 ((σ.1 117 89) - 1).toNat kd177 (lo := (-2147483648)) (hi := 2147483647) rfl
  refine wp_iald (n := 1700) (e := (σ.1 177 ((σ.1 117 89) - 1).toNat)) jF_336_19 kd177 (by decide) rfl rfl (by omega) (by omega) (FRw.na f4 (by decide)) rfl (pc2 := 20) ?_
  refine wp_cV (as := [iV (σ.1 177 ((σ.1 117 89) - 1).toNat)]) (rest := []) (a := 117) (mx := 2) (ci := 12) jF_336_20 kd117 (by decide) rfl rfl rfl rfl rfl (by omega) (by omega) rfl (pc2 := 23) ?_
  have q7 : (dp τ2) = (dp σ) := (dp_wr f4 (by decide))
  have b8 := GI.b hg 117 87 kd117 (lo := 0) (hi := 1690) rfl
  have q9 : (τ2.1 117 87) = (σ.1 117 87) := (FRw.nj f4 (by decide))
  refine wp_use (m_329 τ2 g3 (σ.1 177 ((σ.1 117 89) - 1).toNat) (by omega) (by omega) (by omega) _ _ (by omega) (by omega)) ?_
  rintro _ τ14 ⟨rfl, g15, f16, p10, p11, p12, p13⟩
  show WP 336 23 [(0, .ref 117)] [] _ _ _ _
  refine wp_rv jF_336_23 ?_
  have q17 := ws_nn (σ := τ2)
  have q18 : (ws τ14) = (ws τ2) := (ws_fr f16 (fun _ => rfl) rfl)
  have q19 : (tt τ14) = (tt τ2) := (tt_fr f16 (fun _ => rfl) rfl)
  have q20 : (sq τ14) = (sq τ2) := (sq_fr f16 (fun _ => rfl) rfl)
  have b21 := GI.b g15 117 87 kd117 (lo := 0) (hi := 1690) rfl
  have q22 : (τ14.1 117 89) = ((σ.1 117 89) - 1) := ((FR.at f16 117 89 rfl).trans e5)
  have q23 := ws_nn (σ := σ)
  have b24 := GI.b hg 117 91 kd117 (lo := 0) (hi := 1690) rfl
  have q25 : (tq σ) = (σ.1 177 ((σ.1 117 89) - 1).toNat) := ((tq_e (σ := σ)).trans (congrArg (fun z : Int => σ.1 177 (z - 1).toNat) (show (σ.1 117 89) = (σ.1 117 89) from rfl))).trans rfl
  have q26 := pop f4 e5 (by omega)
  exact ⟨rfl, g15, (FR.up (FR.w FR.rf f4 rfl) f16 sb_Wqc_Wqd), (by omega), (by omega), (by have a := ws_nn (σ := τ14); have t1 := ws_top (σ := σ) (by omega); have t2 := wgt_e (c := tq σ); have t3 := wsf_nn (f := fun j => σ.1 177 j) (n := (σ.1 117 89 - 1).toNat); have w := tt_tq (σ := σ) (by omega) (by omega); omega), (by have a := ws_nn (σ := τ14); have t1 := ws_top (σ := σ) (by omega); have t2 := wgt_e (c := tq σ); have t3 := wsf_nn (f := fun j => σ.1 177 j) (n := (σ.1 117 89 - 1).toNat); have w := tt_tq (σ := σ) (by omega) (by omega); omega), (by have a := ws_nn (σ := τ14); have t1 := ws_top (σ := σ) (by omega); have t2 := wgt_e (c := tq σ); have t3 := wsf_nn (f := fun j => σ.1 177 j) (n := (σ.1 117 89 - 1).toNat); have w := tt_tq (σ := σ) (by omega) (by omega); omega)⟩
set_option maxHeartbeats 4000000 in
set_option maxRecDepth 20000 in
/-- M.qIsOn -/
theorem m_341 (σ : jM) (hg : GI σ) (c : Int) (hl_c : 0 ≤ c) (hu_c : c ≤ 60)  (fr lo : Nat) (hfr : 0 ≤ fr) (hlo : 0 ≤ lo) : WP 341 0 (lv_args 0 [.ref 117, iV c]) [] fr lo σ (fun v τ => ∃ z : Int, v = some (iV z) ∧ (0 ≤ z ∧ z ≤ 1) ∧ σ = τ ∧ (z = 1 → (1 ≤ (σ.1 117 89) ∧ (tq σ) = c)) ∧ (z = 0 → ((σ.1 117 89) ≤ 0 ∨ (tq σ) ≠ c))) := by
  show WP 341 0 [(0, .ref 117), (1, iV c)] [] _ _ _ _
  refine wp_al1 jF_341_0 rfl rfl (pc2 := 1) ?_
  have b1 := GI.b hg 117 89 kd117 (lo := 0) (hi := 1690) rfl
  refine wp_gi jF_341_1 kd117 (by decide) rfl rfl rfl (pc2 := 4) ?_
  refine wp_z_le jF_341_4 (m_rgb b1 rfl) rfl (pc2 := 7) ?_ ?_
  · intro h2
    refine wp_ic jF_341_26 rfl (pc2 := 27) ?_
    refine wp_ri jF_341_27 rfl ?_
    have b3 := GI.b hg 177 ((σ.1 117 89) - 1).toNat kd177 (lo := (-2147483648)) (hi := 2147483647) rfl
    have q4 : (tq σ) = (σ.1 177 ((σ.1 117 89) - 1).toNat) := ((tq_e (σ := σ)).trans (congrArg (fun z : Int => σ.1 177 (z - 1).toNat) (show (σ.1 117 89) = (σ.1 117 89) from rfl))).trans rfl
    exact ⟨0, rfl, ⟨by omega, by omega⟩, rfl, (by omega), (by omega)⟩
  · intro h2
    refine wp_al1 jF_341_7 rfl rfl (pc2 := 8) ?_
    refine wp_gr (b := 177) jF_341_8 kd117 (by decide) (c := 277) rfl rfl rfl (pc2 := 11) ?_
    refine wp_al1 jF_341_11 rfl rfl (pc2 := 12) ?_
    refine wp_gi jF_341_12 kd117 (by decide) rfl rfl rfl (pc2 := 15) ?_
    refine wp_ic jF_341_15 rfl (pc2 := 16) ?_
    refine wp_sub jF_341_16 rfl (pc2 := 17) ?_
    have b5 := GI.b hg 177 ((σ.1 117 89) - 1).toNat kd177 (lo := (-2147483648)) (hi := 2147483647) rfl
    refine wp_iald (n := 1700) (e := (σ.1 177 ((σ.1 117 89) - 1).toNat)) jF_341_17 kd177 (by decide) rfl rfl (by omega) (by omega) rfl rfl (pc2 := 18) ?_
    refine wp_il1 jF_341_18 rfl rfl (pc2 := 19) ?_
    refine wp_i_ne jF_341_19 (m_rgb b5 rfl) ⟨by omega, by omega⟩ rfl (pc2 := 22) ?_ ?_
    · intro h6
      refine wp_ic jF_341_26 rfl (pc2 := 27) ?_
      refine wp_ri jF_341_27 rfl ?_
      have q7 : (tq σ) = (σ.1 177 ((σ.1 117 89) - 1).toNat) := ((tq_e (σ := σ)).trans (congrArg (fun z : Int => σ.1 177 (z - 1).toNat) (show (σ.1 117 89) = (σ.1 117 89) from rfl))).trans rfl
      exact ⟨0, rfl, ⟨by omega, by omega⟩, rfl, (by omega), (by omega)⟩
    · intro h6
      refine wp_ic jF_341_22 rfl (pc2 := 23) ?_
      refine wp_go jF_341_23 ?_
      refine wp_ri jF_341_27 rfl ?_
      have q8 : (tq σ) = (σ.1 177 ((σ.1 117 89) - 1).toNat) := ((tq_e (σ := σ)).trans (congrArg (fun z : Int => σ.1 177 (z - 1).toNat) (show (σ.1 117 89) = (σ.1 117 89) from rfl))).trans rfl
      exact ⟨1, rfl, ⟨by omega, by omega⟩, rfl, (by omega), (by omega)⟩
set_option maxHeartbeats 4000000 in
set_option maxRecDepth 20000 in
/-- M.qBracket -/
theorem m_338 (σ : jM) (hg : GI σ)   (fr lo : Nat) (hfr : 1 ≤ fr) (hlo : 20 ≤ lo) : WP 338 0 (lv_args 0 [.ref 117]) [] fr lo σ (fun v τ => ∃ z : Int, v = some (iV z) ∧ ((-2147483648) ≤ z ∧ z ≤ 2147483647) ∧ σ = τ ∧ (z = (qb σ))) := by
  show WP 338 0 [(0, .ref 117)] [] _ _ _ _
  refine wp_al1 jF_338_0 rfl rfl (pc2 := 1) ?_
  have b1 := GI.b hg 117 89 kd117 (lo := 0) (hi := 1690) rfl
  refine wp_gi jF_338_1 kd117 (by decide) rfl rfl rfl (pc2 := 4) ?_
  refine wp_ic jF_338_4 rfl (pc2 := 5) ?_
  refine wp_sub jF_338_5 rfl (pc2 := 6) ?_
  refine wp_is1 (lv2 := [(0, .ref 117), (1, iV ((σ.1 117 89) - 1))]) jF_338_6 rfl rfl rfl (pc2 := 7) ?_
  refine wp_loop (α := Int) (fun a => [(0, .ref 117), (1, iV (a))]) (fun a τ => ((-1) ≤ a ∧ a ≤ 1689) ∧ σ = τ ∧ ((a) ≤ (σ.1 117 89) - 1) ∧ (QBI σ (a))) (fun a τ => Int.toNat ((a) + 1)) (((σ.1 117 89) - 1)) σ ?_ ?_
  · skip
    exact ⟨⟨by omega, by omega⟩, rfl, (by omega), qbi_i⟩
  · rintro x2 _ ⟨h3, rfl, p7, p8⟩ ih9
    show WP 338 7 [(0, .ref 117), (1, iV x2)] [] _ _ _ _
    show WP 338 7 [(0, .ref 117), (1, iV x2)] [] _ _ _ _
    refine wp_il1 jF_338_7 rfl rfl (pc2 := 8) ?_
    refine wp_al1 jF_338_8 rfl rfl (pc2 := 9) ?_
    have b10 := GI.b hg 117 91 kd117 (lo := 0) (hi := 1690) rfl
    refine wp_gi jF_338_9 kd117 (by decide) rfl rfl rfl (pc2 := 12) ?_
    refine wp_i_lt jF_338_12 (m_rgb h3 rfl) (m_rgb b10 rfl) rfl (pc2 := 15) ?_ ?_
    · intro h11
      refine wp_il1 jF_338_33 rfl rfl (pc2 := 34) ?_
      refine wp_al1 jF_338_34 rfl rfl (pc2 := 35) ?_
      refine wp_gi jF_338_35 kd117 (by decide) rfl rfl rfl (pc2 := 38) ?_
      refine wp_i_lt jF_338_38 (m_rgb h3 rfl) (m_rgb b10 rfl) rfl (pc2 := 41) ?_ ?_
      · intro h12
        refine wp_ic jF_338_50 rfl (pc2 := 51) ?_
        refine wp_ri jF_338_51 rfl ?_
        exact ⟨(-1), rfl, ⟨by omega, by omega⟩, rfl, (qbi_0 p8 (by omega)).symm⟩
      · intro h12
        refine wp_al1 jF_338_41 rfl rfl (pc2 := 42) ?_
        refine wp_gr (b := 177) jF_338_42 kd117 (by decide) (c := 277) rfl rfl rfl (pc2 := 45) ?_
        refine wp_il1 jF_338_45 rfl rfl (pc2 := 46) ?_
        have b13 := GI.b hg 177 x2.toNat kd177 (lo := (-2147483648)) (hi := 2147483647) rfl
        refine wp_iald (n := 1700) (e := (σ.1 177 x2.toNat)) jF_338_46 kd177 (by decide) rfl rfl (by omega) (by omega) rfl rfl (pc2 := 47) ?_
        refine wp_go jF_338_47 ?_
        refine wp_ri jF_338_51 rfl ?_
        exact ⟨(σ.1 177 x2.toNat), rfl, ⟨by omega, by omega⟩, rfl, (by first | (exfalso; omega) | exact (qbi_1 p8 (by omega) (by omega) (by omega) (by omega)).symm)⟩
    · intro h11
      refine wp_al1 jF_338_15 rfl rfl (pc2 := 16) ?_
      refine wp_gr (b := 177) jF_338_16 kd117 (by decide) (c := 277) rfl rfl rfl (pc2 := 19) ?_
      refine wp_il1 jF_338_19 rfl rfl (pc2 := 20) ?_
      have b14 := GI.b hg 177 x2.toNat kd177 (lo := (-2147483648)) (hi := 2147483647) rfl
      refine wp_iald (n := 1700) (e := (σ.1 177 x2.toNat)) jF_338_20 kd177 (by decide) rfl rfl (by omega) (by omega) rfl rfl (pc2 := 21) ?_
      refine wp_cS (as := [iV (σ.1 177 x2.toNat)]) (rest := []) (mx := 1) jF_338_21 rfl rfl rfl rfl (by omega) (by omega) rfl (pc2 := 24) ?_
      show WP 339 0 [(0, iV (σ.1 177 x2.toNat))] [] _ _ _ _
      refine wp_il1 jF_339_0 rfl rfl (pc2 := 1) ?_
      refine wp_bi jF_339_1 (by decide) rfl (pc2 := 3) ?_
      refine wp_i_lt jF_339_3 (m_rgb b14 rfl) (m_rgl rfl) rfl (pc2 := 6) ?_ ?_
      · intro h15
        refine wp_ic jF_339_16 rfl (pc2 := 17) ?_
        refine wp_ri jF_339_17 rfl ?_
        show WP 338 24 [(0, .ref 117), (1, iV x2)] [iV 0] _ _ _ _
        refine wp_z_ne jF_338_24 (m_rgl rfl) rfl (pc2 := 27) ?_ ?_
        · intro h16; exfalso; omega
        · intro h16
          refine wp_inc (lv2 := [(0, .ref 117), (1, iV (x2 + (-1)))]) jF_338_27 rfl rfl rfl rfl (pc2 := 30) ?_
          refine wp_go jF_338_30 ?_
          exact ih9 ((x2 + (-1))) σ ⟨⟨by omega, by omega⟩, rfl, (by omega), (qbi_s p8 (by omega) (by omega) (by omega))⟩ (by show Int.toNat ((x2 + (-1)) + 1) < Int.toNat (x2 + 1); omega)
      · intro h15
        refine wp_il1 jF_339_6 rfl rfl (pc2 := 7) ?_
        refine wp_bi jF_339_7 (by decide) rfl (pc2 := 9) ?_
        refine wp_i_gt jF_339_9 ⟨by omega, by omega⟩ (m_rgl rfl) rfl (pc2 := 12) ?_ ?_
        · intro h17
          refine wp_ic jF_339_16 rfl (pc2 := 17) ?_
          refine wp_ri jF_339_17 rfl ?_
          show WP 338 24 [(0, .ref 117), (1, iV x2)] [iV 0] _ _ _ _
          refine wp_z_ne jF_338_24 (m_rgl rfl) rfl (pc2 := 27) ?_ ?_
          · intro h18; exfalso; omega
          · intro h18
            refine wp_inc (lv2 := [(0, .ref 117), (1, iV (x2 + (-1)))]) jF_338_27 rfl rfl rfl rfl (pc2 := 30) ?_
            refine wp_go jF_338_30 ?_
            exact ih9 ((x2 + (-1))) σ ⟨⟨by omega, by omega⟩, rfl, (by omega), (qbi_s p8 (by omega) (by omega) (by omega))⟩ (by show Int.toNat ((x2 + (-1)) + 1) < Int.toNat (x2 + 1); omega)
        · intro h17
          refine wp_ic jF_339_12 rfl (pc2 := 13) ?_
          refine wp_go jF_339_13 ?_
          refine wp_ri jF_339_17 rfl ?_
          show WP 338 24 [(0, .ref 117), (1, iV x2)] [iV 1] _ _ _ _
          refine wp_z_ne jF_338_24 (m_rgl rfl) rfl (pc2 := 27) ?_ ?_
          · intro h19
            refine wp_il1 jF_338_33 rfl rfl (pc2 := 34) ?_
            refine wp_al1 jF_338_34 rfl rfl (pc2 := 35) ?_
            refine wp_gi jF_338_35 kd117 (by decide) rfl rfl rfl (pc2 := 38) ?_
            refine wp_i_lt jF_338_38 ⟨by omega, by omega⟩ (m_rgb b10 rfl) rfl (pc2 := 41) ?_ ?_
            · intro h20
              refine wp_ic jF_338_50 rfl (pc2 := 51) ?_
              refine wp_ri jF_338_51 rfl ?_
              exact ⟨(-1), rfl, ⟨by omega, by omega⟩, rfl, (qbi_0 p8 (by omega)).symm⟩
            · intro h20
              refine wp_al1 jF_338_41 rfl rfl (pc2 := 42) ?_
              refine wp_gr (b := 177) jF_338_42 kd117 (by decide) (c := 277) rfl rfl rfl (pc2 := 45) ?_
              refine wp_il1 jF_338_45 rfl rfl (pc2 := 46) ?_
              refine wp_iald (n := 1700) (e := (σ.1 177 x2.toNat)) jF_338_46 kd177 (by decide) rfl rfl (by omega) (by omega) rfl rfl (pc2 := 47) ?_
              refine wp_go jF_338_47 ?_
              refine wp_ri jF_338_51 rfl ?_
              exact ⟨(σ.1 177 x2.toNat), rfl, ⟨by omega, by omega⟩, rfl, (by first | (exfalso; omega) | exact (qbi_1 p8 (by omega) (by omega) (by omega) (by omega)).symm)⟩
          · intro h19; exfalso; omega
set_option maxHeartbeats 4000000 in
set_option maxRecDepth 20000 in
/-- M.qDropsToBracket -/
theorem m_340 (σ : jM) (hg : GI σ)  (pre0 : (wk σ) = 1) (pre1 : (σ.1 117 91) ≤ (σ.1 117 89)) (pre2 : (ws σ) < (dp σ)) (pre3 : (σ.1 117 87) + (σ.1 117 89) ≤ 1689) (fr lo : Nat) (hfr : 2 ≤ fr) (hlo : 41 ≤ lo) : WP 340 0 (lv_args 0 [.ref 117]) [] fr lo σ (fun v τ => v = none ∧ GI τ ∧ FR Wqd σ τ ∧ ((wk τ) = 1) ∧ ((σ.1 117 91) ≤ (τ.1 117 89)) ∧ ((dp τ) - (ws τ) = (dp σ) - (ws σ)) ∧ ((τ.1 117 87) + (τ.1 117 89) = (σ.1 117 87) + (σ.1 117 89)) ∧ ((qb σ) = -1 ∨ ((σ.1 117 91) < (τ.1 117 89) ∧ (tq τ) = (qb σ)))) := by
  show WP 340 0 [(0, .ref 117)] [] _ _ _ _
  have q1 := ws_nn (σ := σ)
  have b2 := GI.b hg 117 87 kd117 (lo := 0) (hi := 1690) rfl
  have b3 := GI.b hg 117 89 kd117 (lo := 0) (hi := 1690) rfl
  have b4 := GI.b hg 117 91 kd117 (lo := 0) (hi := 1690) rfl
  refine wp_loop (α := Unit) (fun a => [(0, .ref 117)]) (fun a τ => GI τ ∧ FR Wqd σ τ ∧ ((wk τ) = 1) ∧ ((σ.1 117 91) ≤ (τ.1 117 89)) ∧ ((dp τ) - (ws τ) = (dp σ) - (ws σ)) ∧ ((τ.1 117 87) + (τ.1 117 89) = (σ.1 117 87) + (σ.1 117 89)) ∧ ((qb τ) = (qb σ))) (fun a τ => Int.toNat ((τ.1 117 89))) () σ ?_ ?_
  · skip
    exact ⟨hg, FR.rf, (by omega), (by omega), (by omega), (by omega), (by omega)⟩
  · rintro ⟨⟩ τ5 ⟨g6, f7, p8, p9, p10, p11, p12⟩ ih13
    have q14 := ws_nn (σ := τ5)
    have b15 := GI.b g6 117 87 kd117 (lo := 0) (hi := 1690) rfl
    have b16 := GI.b g6 117 89 kd117 (lo := 0) (hi := 1690) rfl
    show WP 340 0 [(0, .ref 117)] [] _ _ _ _
    show WP 340 0 [(0, .ref 117)] [] _ _ _ _
    refine wp_al1 jF_340_0 rfl rfl (pc2 := 1) ?_
    refine wp_gi jF_340_1 kd117 (by decide) rfl rfl rfl (pc2 := 4) ?_
    refine wp_al1 jF_340_4 rfl rfl (pc2 := 5) ?_
    refine wp_gi jF_340_5 kd117 (by decide) rfl (FR.at f7 117 91 rfl) rfl (pc2 := 8) ?_
    refine wp_i_le jF_340_8 (m_rgb b16 rfl) (m_rgb b4 rfl) rfl (pc2 := 11) ?_ ?_
    · intro h17
      refine wp_rv jF_340_35 ?_
      have q18 : (τ5.1 117 91) = (σ.1 117 91) := (FR.at f7 117 91 rfl)
      have b19 := GI.b hg 177 ((τ5.1 117 89) - 1).toNat kd177 (lo := (-2147483648)) (hi := 2147483647) rfl
      have q20 : (tq τ5) = (σ.1 177 ((τ5.1 117 89) - 1).toNat) := ((tq_e (σ := τ5)).trans (congrArg (fun z : Int => τ5.1 177 (z - 1).toNat) (show (τ5.1 117 89) = (τ5.1 117 89) from rfl))).trans (FR.at f7 177 ((τ5.1 117 89) - 1).toNat rfl)
      exact ⟨rfl, g6, f7, (by omega), (by omega), (by omega), (by omega), (by have a := @qb_0 τ5; have b := @qb_tq τ5; omega)⟩
    · intro h17
      refine wp_al1 jF_340_11 rfl rfl (pc2 := 12) ?_
      refine wp_gr (b := 177) jF_340_12 kd117 (by decide) (c := 277) rfl rfl rfl (pc2 := 15) ?_
      refine wp_al1 jF_340_15 rfl rfl (pc2 := 16) ?_
      refine wp_gi jF_340_16 kd117 (by decide) rfl rfl rfl (pc2 := 19) ?_
      refine wp_ic jF_340_19 rfl (pc2 := 20) ?_
      refine wp_sub jF_340_20 rfl (pc2 := 21) ?_
      have b21 := GI.b hg 177 ((τ5.1 117 89) - 1).toNat kd177 (lo := (-2147483648)) (hi := 2147483647) rfl
      refine wp_iald (n := 1700) (e := (σ.1 177 ((τ5.1 117 89) - 1).toNat)) jF_340_21 kd177 (by decide) rfl rfl (by omega) (by omega) (FR.at f7 177 ((τ5.1 117 89) - 1).toNat rfl) rfl (pc2 := 22) ?_
      refine wp_cS (as := [iV (σ.1 177 ((τ5.1 117 89) - 1).toNat)]) (rest := []) (mx := 1) jF_340_22 rfl rfl rfl rfl (by omega) (by omega) rfl (pc2 := 25) ?_
      show WP 339 0 [(0, iV (σ.1 177 ((τ5.1 117 89) - 1).toNat))] [] _ _ _ _
      refine wp_il1 jF_339_0 rfl rfl (pc2 := 1) ?_
      refine wp_bi jF_339_1 (by decide) rfl (pc2 := 3) ?_
      refine wp_i_lt jF_339_3 (m_rgb b21 rfl) (m_rgl rfl) rfl (pc2 := 6) ?_ ?_
      · intro h22
        refine wp_ic jF_339_16 rfl (pc2 := 17) ?_
        refine wp_ri jF_339_17 rfl ?_
        show WP 340 25 [(0, .ref 117)] [iV 0] _ _ _ _
        refine wp_z_ne jF_340_25 (m_rgl rfl) rfl (pc2 := 28) ?_ ?_
        · intro h23; exfalso; omega
        · intro h23
          have q24 : (tq τ5) = (σ.1 177 ((τ5.1 117 89) - 1).toNat) := ((tq_e (σ := τ5)).trans (congrArg (fun z : Int => τ5.1 177 (z - 1).toNat) (show (τ5.1 117 89) = (τ5.1 117 89) from rfl))).trans (FR.at f7 177 ((τ5.1 117 89) - 1).toNat rfl)
          refine wp_al1 jF_340_28 rfl rfl (pc2 := 29) ?_
          refine wp_cV (as := []) (rest := []) (a := 117) (mx := 1) (ci := 12) jF_340_29 kd117 (by decide) rfl rfl rfl rfl rfl (by omega) (by omega) rfl (pc2 := 32) ?_
          have q25 : (τ5.1 117 91) = (σ.1 117 91) := (FR.at f7 117 91 rfl)
          refine wp_use (m_336_s τ5 g6  (by omega) (by omega) (by omega) (by omega) (by omega) (by omega) _ _ (by omega) (by omega)) ?_
          rintro _ τ31 ⟨rfl, g32, f33, p26, p27, p28, p29, p30⟩
          show WP 340 32 [(0, .ref 117)] [] _ _ _ _
          refine wp_go jF_340_32 ?_
          have q34 := ws_nn (σ := τ31)
          have b35 := GI.b g32 117 87 kd117 (lo := 0) (hi := 1690) rfl
          have b36 := GI.b g32 117 89 kd117 (lo := 0) (hi := 1690) rfl
          exact ih13 () τ31 ⟨g32, (FR.up f7 f33 sb_Wqd_Wqd), (by omega), (by omega), (by omega), (by omega), (by omega)⟩ (by show Int.toNat ((τ31.1 117 89)) < Int.toNat ((τ5.1 117 89)); omega)
      · intro h22
        refine wp_il1 jF_339_6 rfl rfl (pc2 := 7) ?_
        refine wp_bi jF_339_7 (by decide) rfl (pc2 := 9) ?_
        refine wp_i_gt jF_339_9 ⟨by omega, by omega⟩ (m_rgl rfl) rfl (pc2 := 12) ?_ ?_
        · intro h37
          refine wp_ic jF_339_16 rfl (pc2 := 17) ?_
          refine wp_ri jF_339_17 rfl ?_
          show WP 340 25 [(0, .ref 117)] [iV 0] _ _ _ _
          refine wp_z_ne jF_340_25 (m_rgl rfl) rfl (pc2 := 28) ?_ ?_
          · intro h38; exfalso; omega
          · intro h38
            have q39 : (tq τ5) = (σ.1 177 ((τ5.1 117 89) - 1).toNat) := ((tq_e (σ := τ5)).trans (congrArg (fun z : Int => τ5.1 177 (z - 1).toNat) (show (τ5.1 117 89) = (τ5.1 117 89) from rfl))).trans (FR.at f7 177 ((τ5.1 117 89) - 1).toNat rfl)
            refine wp_al1 jF_340_28 rfl rfl (pc2 := 29) ?_
            refine wp_cV (as := []) (rest := []) (a := 117) (mx := 1) (ci := 12) jF_340_29 kd117 (by decide) rfl rfl rfl rfl rfl (by omega) (by omega) rfl (pc2 := 32) ?_
            have q40 : (τ5.1 117 91) = (σ.1 117 91) := (FR.at f7 117 91 rfl)
            refine wp_use (m_336_s τ5 g6  (by omega) (by omega) (by omega) (by omega) (by omega) (by omega) _ _ (by omega) (by omega)) ?_
            rintro _ τ46 ⟨rfl, g47, f48, p41, p42, p43, p44, p45⟩
            show WP 340 32 [(0, .ref 117)] [] _ _ _ _
            refine wp_go jF_340_32 ?_
            have q49 := ws_nn (σ := τ46)
            have b50 := GI.b g47 117 87 kd117 (lo := 0) (hi := 1690) rfl
            have b51 := GI.b g47 117 89 kd117 (lo := 0) (hi := 1690) rfl
            exact ih13 () τ46 ⟨g47, (FR.up f7 f48 sb_Wqd_Wqd), (by omega), (by omega), (by omega), (by omega), (by omega)⟩ (by show Int.toNat ((τ46.1 117 89)) < Int.toNat ((τ5.1 117 89)); omega)
        · intro h37
          refine wp_ic jF_339_12 rfl (pc2 := 13) ?_
          refine wp_go jF_339_13 ?_
          refine wp_ri jF_339_17 rfl ?_
          show WP 340 25 [(0, .ref 117)] [iV 1] _ _ _ _
          refine wp_z_ne jF_340_25 (m_rgl rfl) rfl (pc2 := 28) ?_ ?_
          · intro h52
            refine wp_rv jF_340_35 ?_
            have q53 : (τ5.1 117 91) = (σ.1 117 91) := (FR.at f7 117 91 rfl)
            have q54 : (tq τ5) = (σ.1 177 ((τ5.1 117 89) - 1).toNat) := ((tq_e (σ := τ5)).trans (congrArg (fun z : Int => τ5.1 177 (z - 1).toNat) (show (τ5.1 117 89) = (τ5.1 117 89) from rfl))).trans (FR.at f7 177 ((τ5.1 117 89) - 1).toNat rfl)
            exact ⟨rfl, g6, f7, (by omega), (by omega), (by omega), (by omega), (by have a := @qb_0 τ5; have b := @qb_tq τ5; omega)⟩
          · intro h52; exfalso; omega
set_option maxHeartbeats 4000000 in
set_option maxRecDepth 20000 in
/-- M.qEndsPart -/
theorem m_335 (σ : jM) (hg : GI σ)  (pre0 : (wk σ) = 1) (pre1 : (σ.1 117 91) ≤ (σ.1 117 89)) (pre2 : (σ.1 117 5) = 0 → (ws σ) < (dp σ)) (pre3 : (σ.1 117 87) + (σ.1 117 89) ≤ 1689) (fr lo : Nat) (hfr : 2 ≤ fr) (hlo : 41 ≤ lo) : WP 335 0 (lv_args 0 [.ref 117]) [] fr lo σ (fun v τ => v = none ∧ GI τ ∧ FR Wqe σ τ ∧ ((wk τ) = 1) ∧ ((σ.1 117 91) ≤ (τ.1 117 89)) ∧ ((dp τ) - (ws τ) = (dp σ) - (ws σ)) ∧ ((τ.1 117 87) + (τ.1 117 89) = (σ.1 117 87) + (σ.1 117 89))) := by
  show WP 335 0 [(0, .ref 117)] [] _ _ _ _
  have q1 := ws_nn (σ := σ)
  have b2 := GI.b hg 117 87 kd117 (lo := 0) (hi := 1690) rfl
  have b3 := GI.b hg 117 89 kd117 (lo := 0) (hi := 1690) rfl
  have b4 := GI.b hg 117 91 kd117 (lo := 0) (hi := 1690) rfl
  refine wp_loop (α := Unit) (fun a => [(0, .ref 117)]) (fun a τ => GI τ ∧ FR Wqe σ τ ∧ ((wk τ) = 1) ∧ ((σ.1 117 91) ≤ (τ.1 117 89)) ∧ ((dp τ) - (ws τ) = (dp σ) - (ws σ)) ∧ ((τ.1 117 87) + (τ.1 117 89) = (σ.1 117 87) + (σ.1 117 89))) (fun a τ => Int.toNat ((τ.1 117 89))) () σ ?_ ?_
  · skip
    exact ⟨hg, FR.rf, (by omega), (by omega), (by omega), (by omega)⟩
  · rintro ⟨⟩ τ5 ⟨g6, f7, p8, p9, p10, p11⟩ ih12
    have q13 := ws_nn (σ := τ5)
    have b14 := GI.b g6 117 87 kd117 (lo := 0) (hi := 1690) rfl
    have b15 := GI.b g6 117 89 kd117 (lo := 0) (hi := 1690) rfl
    show WP 335 0 [(0, .ref 117)] [] _ _ _ _
    show WP 335 0 [(0, .ref 117)] [] _ _ _ _
    refine wp_al1 jF_335_0 rfl rfl (pc2 := 1) ?_
    have b16 := GI.b hg 117 5 kd117 (lo := (-2147483648)) (hi := 2147483647) rfl
    refine wp_gi jF_335_1 kd117 (by decide) rfl (FR.at f7 117 5 rfl) rfl (pc2 := 4) ?_
    refine wp_z_ne jF_335_4 (m_rgb b16 rfl) rfl (pc2 := 7) ?_ ?_
    · intro h17
      refine wp_rv jF_335_51 ?_
      exact ⟨rfl, g6, f7, (by omega), (by omega), (by omega), (by omega)⟩
    · intro h17
      refine wp_al1 jF_335_7 rfl rfl (pc2 := 8) ?_
      refine wp_gi jF_335_8 kd117 (by decide) rfl rfl rfl (pc2 := 11) ?_
      refine wp_al1 jF_335_11 rfl rfl (pc2 := 12) ?_
      refine wp_gi jF_335_12 kd117 (by decide) rfl (FR.at f7 117 91 rfl) rfl (pc2 := 15) ?_
      refine wp_i_le jF_335_15 (m_rgb b15 rfl) (m_rgb b4 rfl) rfl (pc2 := 18) ?_ ?_
      · intro h18
        refine wp_rv jF_335_51 ?_
        exact ⟨rfl, g6, f7, (by omega), (by omega), (by omega), (by omega)⟩
      · intro h18
        refine wp_al1 jF_335_18 rfl rfl (pc2 := 19) ?_
        refine wp_gr (b := 177) jF_335_19 kd117 (by decide) (c := 277) rfl rfl rfl (pc2 := 22) ?_
        refine wp_al1 jF_335_22 rfl rfl (pc2 := 23) ?_
        refine wp_gi jF_335_23 kd117 (by decide) rfl rfl rfl (pc2 := 26) ?_
        refine wp_ic jF_335_26 rfl (pc2 := 27) ?_
        refine wp_sub jF_335_27 rfl (pc2 := 28) ?_
        have b19 := GI.b hg 177 ((τ5.1 117 89) - 1).toNat kd177 (lo := (-2147483648)) (hi := 2147483647) rfl
        refine wp_iald (n := 1700) (e := (σ.1 177 ((τ5.1 117 89) - 1).toNat)) jF_335_28 kd177 (by decide) rfl rfl (by omega) (by omega) (FR.at f7 177 ((τ5.1 117 89) - 1).toNat rfl) rfl (pc2 := 29) ?_
        refine wp_bi jF_335_29 (by decide) rfl (pc2 := 31) ?_
        refine wp_i_lt jF_335_31 (m_rgb b19 rfl) (m_rgl rfl) rfl (pc2 := 34) ?_ ?_
        · intro h20
          refine wp_rv jF_335_51 ?_
          exact ⟨rfl, g6, f7, (by omega), (by omega), (by omega), (by omega)⟩
        · intro h20
          have q21 : (tq τ5) = (σ.1 177 ((τ5.1 117 89) - 1).toNat) := ((tq_e (σ := τ5)).trans (congrArg (fun z : Int => τ5.1 177 (z - 1).toNat) (show (τ5.1 117 89) = (τ5.1 117 89) from rfl))).trans (FR.at f7 177 ((τ5.1 117 89) - 1).toNat rfl)
          refine wp_al1 jF_335_34 rfl rfl (pc2 := 35) ?_
          refine wp_dup jF_335_35 rfl rfl (pc2 := 36) ?_
          have b22 := GI.b g6 117 90 kd117 (lo := (-2147483648)) (hi := 2147483647) rfl
          refine wp_gi jF_335_36 kd117 (by decide) rfl rfl rfl (pc2 := 39) ?_
          refine wp_ic jF_335_39 rfl (pc2 := 40) ?_
          refine wp_any2 (pc2 := 41) jF_335_40 rfl rfl ?_
          intro z23 h24
          refine wp_pi jF_335_41 kd117 (by decide) rfl rfl rfl (pc2 := 44) g6 (lo := (-2147483648)) (hi := 2147483647) rfl (by omega) (by omega) ?_
          intro τ25 g26 f27 e28
          refine wp_al1 jF_335_44 rfl rfl (pc2 := 45) ?_
          refine wp_cV (as := []) (rest := []) (a := 117) (mx := 1) (ci := 12) jF_335_45 kd117 (by decide) rfl rfl rfl rfl rfl (by omega) (by omega) rfl (pc2 := 48) ?_
          have q29 : (dp τ25) = (dp τ5) := (dp_wr f27 (by decide))
          have q30 := ws_nn (σ := τ5)
          have q31 : (ws τ25) = (ws τ5) := (ws_wr f27 (by decide))
          have q32 : (wk τ25) = (wk τ5) := (wk_wr f27 (by decide))
          have q33 : (tq τ25) = (tq τ5) := (tq_wr f27 (by decide))
          have q34 : (qb τ25) = (qb τ5) := (qb_wr f27 (by decide))
          have q35 : (τ25.1 117 87) = (τ5.1 117 87) := (FRw.nj f27 (by decide))
          have q36 : (τ25.1 117 89) = (τ5.1 117 89) := (FRw.nj f27 (by decide))
          have q37 : (τ25.1 117 91) = (σ.1 117 91) := ((FRw.nj f27 (by decide)).trans (FR.at f7 117 91 rfl))
          refine wp_use (m_336_s τ25 g26  (by omega) (by omega) (by omega) (by omega) (by omega) (by omega) _ _ (by omega) (by omega)) ?_
          rintro _ τ43 ⟨rfl, g44, f45, p38, p39, p40, p41, p42⟩
          show WP 335 48 [(0, .ref 117)] [] _ _ _ _
          refine wp_go jF_335_48 ?_
          have q46 := ws_nn (σ := τ43)
          have b47 := GI.b g44 117 87 kd117 (lo := 0) (hi := 1690) rfl
          have b48 := GI.b g44 117 89 kd117 (lo := 0) (hi := 1690) rfl
          exact ih12 () τ43 ⟨g44, (FR.up (FR.w f7 f27 rfl) f45 sb_Wqd_Wqe), (by omega), (by omega), (by omega), (by omega)⟩ (by show Int.toNat ((τ43.1 117 89)) < Int.toNat ((τ5.1 117 89)); omega)
set_option maxHeartbeats 4000000 in
set_option maxRecDepth 20000 in
/-- M.qOpens -/
theorem m_327 (σ : jM) (hg : GI σ) (c : Int) (hl_c : 0 ≤ c) (hu_c : c ≤ 60) (pl : Int) (hl_pl : (-2147483648) ≤ pl) (hu_pl : pl ≤ 2147483647) (pre0 : (σ.1 117 89) ≤ 1689) (pre1 : c = 12 ∨ (20 ≤ c ∧ c ≤ 22) ∨ c = 25 ∨ c = 60) (fr lo : Nat) (hfr : 1 ≤ fr) (hlo : 22 ≤ lo) : WP 327 0 (lv_args 0 [.ref 117, iV c, iV pl]) [] fr lo σ (fun v τ => v = none ∧ GI τ ∧ FR Wqo σ τ ∧ ((σ.1 117 5) ≠ 0 → (τ.1 117 5) = (σ.1 117 5)) ∧ ((τ.1 117 5) = 0 → (σ.1 117 5) = 0) ∧ ((σ.1 117 89) ≤ (τ.1 117 89)) ∧ ((τ.1 117 89) ≤ (σ.1 117 89) + 1) ∧ ((τ.1 117 5) ≠ 0 → (τ.1 117 89) = (σ.1 117 89)) ∧ ((ws τ) = (ws σ)) ∧ (((20 ≤ c ∧ c ≤ 22) ∨ c = 60) → (wk σ) = 1 → (σ.1 117 91) ≤ (σ.1 117 89) → (wk τ) = 1) ∧ ((c = 12 ∨ c = 25) → (tt σ) = 1 → (tt τ) = 1)) := by
  show WP 327 0 [(0, .ref 117), (1, iV c), (2, iV pl)] [] _ _ _ _
  refine wp_al1 jF_327_0 rfl rfl (pc2 := 1) ?_
  have b1 := GI.b hg 117 5 kd117 (lo := (-2147483648)) (hi := 2147483647) rfl
  refine wp_gi jF_327_1 kd117 (by decide) rfl rfl rfl (pc2 := 4) ?_
  refine wp_z_eq jF_327_4 (m_rgb b1 rfl) rfl (pc2 := 7) ?_ ?_
  · intro h2
    refine wp_al1 jF_327_8 rfl rfl (pc2 := 9) ?_
    have b3 := GI.b hg 117 90 kd117 (lo := (-2147483648)) (hi := 2147483647) rfl
    refine wp_gi jF_327_9 kd117 (by decide) rfl rfl rfl (pc2 := 12) ?_
    refine wp_bi jF_327_12 (by decide) rfl (pc2 := 14) ?_
    refine wp_i_ne jF_327_14 (m_rgb b3 rfl) (m_rgl rfl) rfl (pc2 := 17) ?_ ?_
    · intro h4
      refine wp_al1 jF_327_24 rfl rfl (pc2 := 25) ?_
      refine wp_dup jF_327_25 rfl rfl (pc2 := 26) ?_
      refine wp_gi jF_327_26 kd117 (by decide) rfl rfl rfl (pc2 := 29) ?_
      refine wp_ic jF_327_29 rfl (pc2 := 30) ?_
      refine wp_any2 (pc2 := 31) jF_327_30 rfl rfl ?_
      intro z5 h6
      refine wp_pi jF_327_31 kd117 (by decide) rfl rfl rfl (pc2 := 34) hg (lo := (-2147483648)) (hi := 2147483647) rfl (by omega) (by omega) ?_
      intro τ7 g8 f9 e10
      refine wp_al1 jF_327_34 rfl rfl (pc2 := 35) ?_
      refine wp_gr (b := 177) jF_327_35 kd117 (by decide) (c := 277) rfl rfl rfl (pc2 := 38) ?_
      refine wp_al1 jF_327_38 rfl rfl (pc2 := 39) ?_
      have b11 := GI.b hg 117 89 kd117 (lo := 0) (hi := 1690) rfl
      refine wp_gi jF_327_39 kd117 (by decide) rfl (FRw.nj f9 (by decide)) rfl (pc2 := 42) ?_
      refine wp_il1 jF_327_42 rfl rfl (pc2 := 43) ?_
      refine wp_iast (n := 1700) jF_327_43 kd177 (by decide) rfl rfl (by omega) (by omega) rfl (pc2 := 44) g8 (lo := (-2147483648)) (hi := 2147483647) rfl (by omega) (by omega) ?_
      intro τ12 g13 f14 e15
      refine wp_al1 jF_327_44 rfl rfl (pc2 := 45) ?_
      refine wp_dup jF_327_45 rfl rfl (pc2 := 46) ?_
      refine wp_gi jF_327_46 kd117 (by decide) rfl ((FRw.na f14 (by decide)).trans (FRw.nj f9 (by decide))) rfl (pc2 := 49) ?_
      refine wp_ic jF_327_49 rfl (pc2 := 50) ?_
      refine wp_add jF_327_50 rfl (pc2 := 51) ?_
      refine wp_pi jF_327_51 kd117 (by decide) rfl rfl rfl (pc2 := 54) g13 (lo := 0) (hi := 1690) rfl (by omega) (by omega) ?_
      intro τ16 g17 f18 e19
      refine wp_rv jF_327_54 ?_
      have q20 := ws_nn (σ := τ16)
      have q21 : (τ16.1 117 5) = (σ.1 117 5) := ((FRw.nj f18 (by decide)).trans ((FRw.na f14 (by decide)).trans (FRw.nj f9 (by decide))))
      have q22 : (τ16.1 117 89) = ((σ.1 117 89) + 1) := e19
      have q23 := ws_nn (σ := σ)
      have q24 : (ws τ7) = (ws σ) := (ws_wr f9 (by decide))
      have q25 : (tt τ7) = (tt σ) := (tt_wr f9 (by decide))
      have q26 : (wk τ7) = (wk σ) := (wk_wr f9 (by decide))
      have q27 : (tq τ7) = (tq σ) := (tq_wr f9 (by decide))
      have q28 : (τ7.1 117 89) = (σ.1 117 89) := (FRw.nj f9 (by decide))
      have b29 := GI.b hg 117 91 kd117 (lo := 0) (hi := 1690) rfl
      have q30 : (τ7.1 117 91) = (σ.1 117 91) := (FRw.nj f9 (by decide))
      have q31 : τ7.1 117 89 = (σ.1 117 89) := (FRw.nj f9 (by decide))
      have q32 := psh (σ := τ7) f14 e15 (congrArg Int.toNat q31.symm) f18 (by have z := e19; omega) (by omega)
      exact ⟨rfl, g17, (FR.w (FR.w (FR.w FR.rf f9 rfl) f14 rfl) f18 rfl), (by omega), (by omega), (by omega), (by omega), (by omega), (by omega), (by omega), (by omega)⟩
    · intro h4
      refine wp_al1 jF_327_17 rfl rfl (pc2 := 18) ?_
      refine wp_ic jF_327_18 rfl (pc2 := 19) ?_
      refine wp_il1 jF_327_19 rfl rfl (pc2 := 20) ?_
      refine wp_cV (as := [iV 4, iV pl]) (rest := []) (a := 117) (mx := 3) (ci := 12) jF_327_20 kd117 (by decide) rfl rfl rfl rfl rfl (by omega) (by omega) rfl (pc2 := 23) ?_
      refine wp_use (m_218 σ hg 4 (by omega) (by omega) pl (by omega) (by omega)  _ _ (by omega) (by omega)) ?_
      rintro _ τ35 ⟨rfl, g36, f37, p33, p34⟩
      clear p33
      replace p34 := p34 (by omega)
      show WP 327 23 [(0, .ref 117), (1, iV c), (2, iV pl)] [] _ _ _ _
      refine wp_rv jF_327_23 ?_
      have q38 := ws_nn (σ := σ)
      have q39 : (ws τ35) = (ws σ) := (ws_fr f37 (fun _ => rfl) rfl)
      have q40 : (tt τ35) = (tt σ) := (tt_fr f37 (fun _ => rfl) rfl)
      have q41 : (wk τ35) = (wk σ) := (wk_fr f37 (fun _ => rfl) rfl rfl)
      have b42 := GI.b g36 117 5 kd117 (lo := (-2147483648)) (hi := 2147483647) rfl
      have b43 := GI.b hg 117 89 kd117 (lo := 0) (hi := 1690) rfl
      have q44 : (τ35.1 117 89) = (σ.1 117 89) := (FR.at f37 117 89 rfl)
      exact ⟨rfl, g36, (FR.up FR.rf f37 sb_Wbad_Wqo), (by omega), (by omega), (by omega), (by omega), (by omega), (by omega), (by omega), (by omega)⟩
  · intro h2
    refine wp_rv jF_327_7 ?_
    have q45 := ws_nn (σ := σ)
    have b46 := GI.b hg 117 89 kd117 (lo := 0) (hi := 1690) rfl
    have b47 := GI.b hg 117 91 kd117 (lo := 0) (hi := 1690) rfl
    exact ⟨rfl, hg, FR.rf, (by omega), (by omega), (by omega), (by omega), (by omega), (by omega), (by omega), (by omega)⟩
