set_option maxHeartbeats 4000000 in
set_option maxRecDepth 20000 in
/-- M.isOfRuled -/
theorem m_246 (σ : jM) (hg : GI σ) (r : Int) (hl_r : 0 ≤ r) (hu_r : r ≤ 33) (k : Int) (hl_k : 0 ≤ k) (hu_k : k ≤ 63) (pre0 : ((m0 σ) ≠ 0 ∧ (m1 σ) ≠ 0 ∧ (m2 σ) ≠ 0)) (pre1 : k < (cm σ)) (fr lo : Nat) (hfr : 2 ≤ fr) (hlo : 45 ≤ lo) : WP 246 0 (lv_args 0 [.ref 117, iV r, iV k]) [] fr lo σ (fun v τ => ∃ z : Int, v = some (iV z) ∧ (0 ≤ z ∧ z ≤ 1) ∧ σ = τ) := by
  show WP 246 0 [(0, .ref 117), (1, iV r), (2, iV k)] [] _ _ _ _
  refine wp_ic jF_246_0 rfl (pc2 := 1) ?_
  refine wp_is1 (lv2 := [(0, .ref 117), (1, iV r), (2, iV k), (3, iV 0)]) jF_246_1 rfl rfl rfl (pc2 := 2) ?_
  refine wp_il1 jF_246_2 rfl rfl (pc2 := 3) ?_
  refine wp_ic jF_246_3 rfl (pc2 := 4) ?_
  refine wp_i_ge jF_246_4 (m_rgl rfl) (m_rgl rfl) rfl (pc2 := 7) ?_ ?_
  · intro h1; exfalso; omega
  · intro h1
    refine wp_al1 jF_246_7 rfl rfl (pc2 := 8) ?_
    refine wp_gr (b := 142) jF_246_8 kd117 (by decide) (c := 242) rfl rfl rfl (pc2 := 11) ?_
    refine wp_si jF_246_11 (by decide) rfl (pc2 := 14) ?_
    refine wp_bi jF_246_14 (by decide) rfl (pc2 := 16) ?_
    refine wp_il1 jF_246_16 rfl rfl (pc2 := 17) ?_
    refine wp_mul jF_246_17 rfl (pc2 := 18) ?_
    refine wp_add jF_246_18 rfl (pc2 := 19) ?_
    refine wp_il1 jF_246_19 rfl rfl (pc2 := 20) ?_
    refine wp_add jF_246_20 rfl (pc2 := 21) ?_
    have b2 := GI.b hg 142 ((204 + (6 * r)) + 0).toNat kd142 (lo := (-2147483648)) (hi := 2147483647) rfl
    refine wp_iald (n := 408) (e := (σ.1 142 ((204 + (6 * r)) + 0).toNat)) jF_246_21 kd142 (by decide) rfl rfl (by omega) (by omega) rfl rfl (pc2 := 22) ?_
    refine wp_ic jF_246_22 rfl (pc2 := 23) ?_
    refine wp_i_eq jF_246_23 (m_rgb b2 rfl) (m_rgl rfl) rfl (pc2 := 26) ?_ ?_
    · intro h3
      refine wp_inc (lv2 := [(0, .ref 117), (1, iV r), (2, iV k), (3, iV 1)]) jF_246_52 rfl rfl rfl rfl (pc2 := 55) ?_
      refine wp_go jF_246_55 ?_
      refine wp_il1 jF_246_2 rfl rfl (pc2 := 3) ?_
      refine wp_ic jF_246_3 rfl (pc2 := 4) ?_
      refine wp_i_ge jF_246_4 (m_rgl rfl) (m_rgl rfl) rfl (pc2 := 7) ?_ ?_
      · intro h4; exfalso; omega
      · intro h4
        refine wp_al1 jF_246_7 rfl rfl (pc2 := 8) ?_
        refine wp_gr (b := 142) jF_246_8 kd117 (by decide) (c := 242) rfl rfl rfl (pc2 := 11) ?_
        refine wp_si jF_246_11 (by decide) rfl (pc2 := 14) ?_
        refine wp_bi jF_246_14 (by decide) rfl (pc2 := 16) ?_
        refine wp_il1 jF_246_16 rfl rfl (pc2 := 17) ?_
        refine wp_mul jF_246_17 rfl (pc2 := 18) ?_
        refine wp_add jF_246_18 rfl (pc2 := 19) ?_
        refine wp_il1 jF_246_19 rfl rfl (pc2 := 20) ?_
        refine wp_add jF_246_20 rfl (pc2 := 21) ?_
        have b5 := GI.b hg 142 ((204 + (6 * r)) + 1).toNat kd142 (lo := (-2147483648)) (hi := 2147483647) rfl
        refine wp_iald (n := 408) (e := (σ.1 142 ((204 + (6 * r)) + 1).toNat)) jF_246_21 kd142 (by decide) rfl rfl (by omega) (by omega) rfl rfl (pc2 := 22) ?_
        refine wp_ic jF_246_22 rfl (pc2 := 23) ?_
        refine wp_i_eq jF_246_23 (m_rgb b5 rfl) (m_rgl rfl) rfl (pc2 := 26) ?_ ?_
        · intro h6
          refine wp_inc (lv2 := [(0, .ref 117), (1, iV r), (2, iV k), (3, iV 2)]) jF_246_52 rfl rfl rfl rfl (pc2 := 55) ?_
          refine wp_go jF_246_55 ?_
          refine wp_il1 jF_246_2 rfl rfl (pc2 := 3) ?_
          refine wp_ic jF_246_3 rfl (pc2 := 4) ?_
          refine wp_i_ge jF_246_4 (m_rgl rfl) (m_rgl rfl) rfl (pc2 := 7) ?_ ?_
          · intro h7; exfalso; omega
          · intro h7
            refine wp_al1 jF_246_7 rfl rfl (pc2 := 8) ?_
            refine wp_gr (b := 142) jF_246_8 kd117 (by decide) (c := 242) rfl rfl rfl (pc2 := 11) ?_
            refine wp_si jF_246_11 (by decide) rfl (pc2 := 14) ?_
            refine wp_bi jF_246_14 (by decide) rfl (pc2 := 16) ?_
            refine wp_il1 jF_246_16 rfl rfl (pc2 := 17) ?_
            refine wp_mul jF_246_17 rfl (pc2 := 18) ?_
            refine wp_add jF_246_18 rfl (pc2 := 19) ?_
            refine wp_il1 jF_246_19 rfl rfl (pc2 := 20) ?_
            refine wp_add jF_246_20 rfl (pc2 := 21) ?_
            have b8 := GI.b hg 142 ((204 + (6 * r)) + 2).toNat kd142 (lo := (-2147483648)) (hi := 2147483647) rfl
            refine wp_iald (n := 408) (e := (σ.1 142 ((204 + (6 * r)) + 2).toNat)) jF_246_21 kd142 (by decide) rfl rfl (by omega) (by omega) rfl rfl (pc2 := 22) ?_
            refine wp_ic jF_246_22 rfl (pc2 := 23) ?_
            refine wp_i_eq jF_246_23 (m_rgb b8 rfl) (m_rgl rfl) rfl (pc2 := 26) ?_ ?_
            · intro h9
              refine wp_inc (lv2 := [(0, .ref 117), (1, iV r), (2, iV k), (3, iV 3)]) jF_246_52 rfl rfl rfl rfl (pc2 := 55) ?_
              refine wp_go jF_246_55 ?_
              refine wp_il1 jF_246_2 rfl rfl (pc2 := 3) ?_
              refine wp_ic jF_246_3 rfl (pc2 := 4) ?_
              refine wp_i_ge jF_246_4 (m_rgl rfl) (m_rgl rfl) rfl (pc2 := 7) ?_ ?_
              · intro h10
                refine wp_ic jF_246_58 rfl (pc2 := 59) ?_
                refine wp_ri jF_246_59 rfl ?_
                exact ⟨1, rfl, ⟨by omega, by omega⟩, rfl⟩
              · intro h10; exfalso; omega
            · intro h9
              refine wp_al1 jF_246_26 rfl rfl (pc2 := 27) ?_
              refine wp_gr (b := 142) jF_246_27 kd117 (by decide) (c := 242) rfl rfl rfl (pc2 := 30) ?_
              refine wp_si jF_246_30 (by decide) rfl (pc2 := 33) ?_
              refine wp_bi jF_246_33 (by decide) rfl (pc2 := 35) ?_
              refine wp_il1 jF_246_35 rfl rfl (pc2 := 36) ?_
              refine wp_mul jF_246_36 rfl (pc2 := 37) ?_
              refine wp_add jF_246_37 rfl (pc2 := 38) ?_
              refine wp_il1 jF_246_38 rfl rfl (pc2 := 39) ?_
              refine wp_add jF_246_39 rfl (pc2 := 40) ?_
              refine wp_iald (n := 408) (e := (σ.1 142 ((204 + (6 * r)) + 2).toNat)) jF_246_40 kd142 (by decide) rfl rfl (by omega) (by omega) rfl rfl (pc2 := 41) ?_
              refine wp_al1 jF_246_41 rfl rfl (pc2 := 42) ?_
              refine wp_il1 jF_246_42 rfl rfl (pc2 := 43) ?_
              refine wp_il1 jF_246_43 rfl rfl (pc2 := 44) ?_
              refine wp_cV (as := [iV k, iV 2]) (rest := [iV (σ.1 142 ((204 + (6 * r)) + 2).toNat)]) (a := 117) (mx := 3) (ci := 12) jF_246_44 kd117 (by decide) rfl rfl rfl rfl rfl (by omega) (by omega) rfl (pc2 := 47) ?_
              refine wp_use (m_245_2 σ hg k (by omega) (by omega) (by omega) (by omega) _ _ (by omega) (by omega)) ?_
              rintro _ _ ⟨z14, rfl, h15, rfl, p11⟩
              show WP 246 47 [(0, .ref 117), (1, iV r), (2, iV k), (3, iV 2)] [iV z14, iV (σ.1 142 ((204 + (6 * r)) + 2).toNat)] _ _ _ _
              refine wp_i_eq jF_246_47 (m_rgb b8 rfl) (m_rgb h15 rfl) rfl (pc2 := 50) ?_ ?_
              · intro h16
                refine wp_inc (lv2 := [(0, .ref 117), (1, iV r), (2, iV k), (3, iV 3)]) jF_246_52 rfl rfl rfl rfl (pc2 := 55) ?_
                refine wp_go jF_246_55 ?_
                refine wp_il1 jF_246_2 rfl rfl (pc2 := 3) ?_
                refine wp_ic jF_246_3 rfl (pc2 := 4) ?_
                refine wp_i_ge jF_246_4 (m_rgl rfl) (m_rgl rfl) rfl (pc2 := 7) ?_ ?_
                · intro h17
                  refine wp_ic jF_246_58 rfl (pc2 := 59) ?_
                  refine wp_ri jF_246_59 rfl ?_
                  exact ⟨1, rfl, ⟨by omega, by omega⟩, rfl⟩
                · intro h17; exfalso; omega
              · intro h16
                refine wp_ic jF_246_50 rfl (pc2 := 51) ?_
                refine wp_ri jF_246_51 rfl ?_
                exact ⟨0, rfl, ⟨by omega, by omega⟩, rfl⟩
        · intro h6
          refine wp_al1 jF_246_26 rfl rfl (pc2 := 27) ?_
          refine wp_gr (b := 142) jF_246_27 kd117 (by decide) (c := 242) rfl rfl rfl (pc2 := 30) ?_
          refine wp_si jF_246_30 (by decide) rfl (pc2 := 33) ?_
          refine wp_bi jF_246_33 (by decide) rfl (pc2 := 35) ?_
          refine wp_il1 jF_246_35 rfl rfl (pc2 := 36) ?_
          refine wp_mul jF_246_36 rfl (pc2 := 37) ?_
          refine wp_add jF_246_37 rfl (pc2 := 38) ?_
          refine wp_il1 jF_246_38 rfl rfl (pc2 := 39) ?_
          refine wp_add jF_246_39 rfl (pc2 := 40) ?_
          refine wp_iald (n := 408) (e := (σ.1 142 ((204 + (6 * r)) + 1).toNat)) jF_246_40 kd142 (by decide) rfl rfl (by omega) (by omega) rfl rfl (pc2 := 41) ?_
          refine wp_al1 jF_246_41 rfl rfl (pc2 := 42) ?_
          refine wp_il1 jF_246_42 rfl rfl (pc2 := 43) ?_
          refine wp_il1 jF_246_43 rfl rfl (pc2 := 44) ?_
          refine wp_cV (as := [iV k, iV 1]) (rest := [iV (σ.1 142 ((204 + (6 * r)) + 1).toNat)]) (a := 117) (mx := 3) (ci := 12) jF_246_44 kd117 (by decide) rfl rfl rfl rfl rfl (by omega) (by omega) rfl (pc2 := 47) ?_
          refine wp_use (m_245_1 σ hg k (by omega) (by omega) (by omega) _ _ (by omega) (by omega)) ?_
          rintro _ _ ⟨z20, rfl, h21, rfl⟩
          show WP 246 47 [(0, .ref 117), (1, iV r), (2, iV k), (3, iV 1)] [iV z20, iV (σ.1 142 ((204 + (6 * r)) + 1).toNat)] _ _ _ _
          refine wp_i_eq jF_246_47 (m_rgb b5 rfl) (m_rgb h21 rfl) rfl (pc2 := 50) ?_ ?_
          · intro h22
            refine wp_inc (lv2 := [(0, .ref 117), (1, iV r), (2, iV k), (3, iV 2)]) jF_246_52 rfl rfl rfl rfl (pc2 := 55) ?_
            refine wp_go jF_246_55 ?_
            refine wp_il1 jF_246_2 rfl rfl (pc2 := 3) ?_
            refine wp_ic jF_246_3 rfl (pc2 := 4) ?_
            refine wp_i_ge jF_246_4 (m_rgl rfl) (m_rgl rfl) rfl (pc2 := 7) ?_ ?_
            · intro h23; exfalso; omega
            · intro h23
              refine wp_al1 jF_246_7 rfl rfl (pc2 := 8) ?_
              refine wp_gr (b := 142) jF_246_8 kd117 (by decide) (c := 242) rfl rfl rfl (pc2 := 11) ?_
              refine wp_si jF_246_11 (by decide) rfl (pc2 := 14) ?_
              refine wp_bi jF_246_14 (by decide) rfl (pc2 := 16) ?_
              refine wp_il1 jF_246_16 rfl rfl (pc2 := 17) ?_
              refine wp_mul jF_246_17 rfl (pc2 := 18) ?_
              refine wp_add jF_246_18 rfl (pc2 := 19) ?_
              refine wp_il1 jF_246_19 rfl rfl (pc2 := 20) ?_
              refine wp_add jF_246_20 rfl (pc2 := 21) ?_
              have b24 := GI.b hg 142 ((204 + (6 * r)) + 2).toNat kd142 (lo := (-2147483648)) (hi := 2147483647) rfl
              refine wp_iald (n := 408) (e := (σ.1 142 ((204 + (6 * r)) + 2).toNat)) jF_246_21 kd142 (by decide) rfl rfl (by omega) (by omega) rfl rfl (pc2 := 22) ?_
              refine wp_ic jF_246_22 rfl (pc2 := 23) ?_
              refine wp_i_eq jF_246_23 (m_rgb b24 rfl) (m_rgl rfl) rfl (pc2 := 26) ?_ ?_
              · intro h25
                refine wp_inc (lv2 := [(0, .ref 117), (1, iV r), (2, iV k), (3, iV 3)]) jF_246_52 rfl rfl rfl rfl (pc2 := 55) ?_
                refine wp_go jF_246_55 ?_
                refine wp_il1 jF_246_2 rfl rfl (pc2 := 3) ?_
                refine wp_ic jF_246_3 rfl (pc2 := 4) ?_
                refine wp_i_ge jF_246_4 (m_rgl rfl) (m_rgl rfl) rfl (pc2 := 7) ?_ ?_
                · intro h26
                  refine wp_ic jF_246_58 rfl (pc2 := 59) ?_
                  refine wp_ri jF_246_59 rfl ?_
                  exact ⟨1, rfl, ⟨by omega, by omega⟩, rfl⟩
                · intro h26; exfalso; omega
              · intro h25
                refine wp_al1 jF_246_26 rfl rfl (pc2 := 27) ?_
                refine wp_gr (b := 142) jF_246_27 kd117 (by decide) (c := 242) rfl rfl rfl (pc2 := 30) ?_
                refine wp_si jF_246_30 (by decide) rfl (pc2 := 33) ?_
                refine wp_bi jF_246_33 (by decide) rfl (pc2 := 35) ?_
                refine wp_il1 jF_246_35 rfl rfl (pc2 := 36) ?_
                refine wp_mul jF_246_36 rfl (pc2 := 37) ?_
                refine wp_add jF_246_37 rfl (pc2 := 38) ?_
                refine wp_il1 jF_246_38 rfl rfl (pc2 := 39) ?_
                refine wp_add jF_246_39 rfl (pc2 := 40) ?_
                refine wp_iald (n := 408) (e := (σ.1 142 ((204 + (6 * r)) + 2).toNat)) jF_246_40 kd142 (by decide) rfl rfl (by omega) (by omega) rfl rfl (pc2 := 41) ?_
                refine wp_al1 jF_246_41 rfl rfl (pc2 := 42) ?_
                refine wp_il1 jF_246_42 rfl rfl (pc2 := 43) ?_
                refine wp_il1 jF_246_43 rfl rfl (pc2 := 44) ?_
                refine wp_cV (as := [iV k, iV 2]) (rest := [iV (σ.1 142 ((204 + (6 * r)) + 2).toNat)]) (a := 117) (mx := 3) (ci := 12) jF_246_44 kd117 (by decide) rfl rfl rfl rfl rfl (by omega) (by omega) rfl (pc2 := 47) ?_
                refine wp_use (m_245_2 σ hg k (by omega) (by omega) (by omega) (by omega) _ _ (by omega) (by omega)) ?_
                rintro _ _ ⟨z30, rfl, h31, rfl, p27⟩
                show WP 246 47 [(0, .ref 117), (1, iV r), (2, iV k), (3, iV 2)] [iV z30, iV (σ.1 142 ((204 + (6 * r)) + 2).toNat)] _ _ _ _
                refine wp_i_eq jF_246_47 (m_rgb b24 rfl) (m_rgb h31 rfl) rfl (pc2 := 50) ?_ ?_
                · intro h32
                  refine wp_inc (lv2 := [(0, .ref 117), (1, iV r), (2, iV k), (3, iV 3)]) jF_246_52 rfl rfl rfl rfl (pc2 := 55) ?_
                  refine wp_go jF_246_55 ?_
                  refine wp_il1 jF_246_2 rfl rfl (pc2 := 3) ?_
                  refine wp_ic jF_246_3 rfl (pc2 := 4) ?_
                  refine wp_i_ge jF_246_4 (m_rgl rfl) (m_rgl rfl) rfl (pc2 := 7) ?_ ?_
                  · intro h33
                    refine wp_ic jF_246_58 rfl (pc2 := 59) ?_
                    refine wp_ri jF_246_59 rfl ?_
                    exact ⟨1, rfl, ⟨by omega, by omega⟩, rfl⟩
                  · intro h33; exfalso; omega
                · intro h32
                  refine wp_ic jF_246_50 rfl (pc2 := 51) ?_
                  refine wp_ri jF_246_51 rfl ?_
                  exact ⟨0, rfl, ⟨by omega, by omega⟩, rfl⟩
          · intro h22
            refine wp_ic jF_246_50 rfl (pc2 := 51) ?_
            refine wp_ri jF_246_51 rfl ?_
            exact ⟨0, rfl, ⟨by omega, by omega⟩, rfl⟩
    · intro h3
      refine wp_al1 jF_246_26 rfl rfl (pc2 := 27) ?_
      refine wp_gr (b := 142) jF_246_27 kd117 (by decide) (c := 242) rfl rfl rfl (pc2 := 30) ?_
      refine wp_si jF_246_30 (by decide) rfl (pc2 := 33) ?_
      refine wp_bi jF_246_33 (by decide) rfl (pc2 := 35) ?_
      refine wp_il1 jF_246_35 rfl rfl (pc2 := 36) ?_
      refine wp_mul jF_246_36 rfl (pc2 := 37) ?_
      refine wp_add jF_246_37 rfl (pc2 := 38) ?_
      refine wp_il1 jF_246_38 rfl rfl (pc2 := 39) ?_
      refine wp_add jF_246_39 rfl (pc2 := 40) ?_
      refine wp_iald (n := 408) (e := (σ.1 142 ((204 + (6 * r)) + 0).toNat)) jF_246_40 kd142 (by decide) rfl rfl (by omega) (by omega) rfl rfl (pc2 := 41) ?_
      refine wp_al1 jF_246_41 rfl rfl (pc2 := 42) ?_
      refine wp_il1 jF_246_42 rfl rfl (pc2 := 43) ?_
      refine wp_il1 jF_246_43 rfl rfl (pc2 := 44) ?_
      refine wp_cV (as := [iV k, iV 0]) (rest := [iV (σ.1 142 ((204 + (6 * r)) + 0).toNat)]) (a := 117) (mx := 3) (ci := 12) jF_246_44 kd117 (by decide) rfl rfl rfl rfl rfl (by omega) (by omega) rfl (pc2 := 47) ?_
      refine wp_use (m_245_0 σ hg k (by omega) (by omega) (by omega) _ _ (by omega) (by omega)) ?_
      rintro _ _ ⟨z36, rfl, h37, rfl⟩
      show WP 246 47 [(0, .ref 117), (1, iV r), (2, iV k), (3, iV 0)] [iV z36, iV (σ.1 142 ((204 + (6 * r)) + 0).toNat)] _ _ _ _
      refine wp_i_eq jF_246_47 (m_rgb b2 rfl) (m_rgb h37 rfl) rfl (pc2 := 50) ?_ ?_
      · intro h38
        refine wp_inc (lv2 := [(0, .ref 117), (1, iV r), (2, iV k), (3, iV 1)]) jF_246_52 rfl rfl rfl rfl (pc2 := 55) ?_
        refine wp_go jF_246_55 ?_
        refine wp_il1 jF_246_2 rfl rfl (pc2 := 3) ?_
        refine wp_ic jF_246_3 rfl (pc2 := 4) ?_
        refine wp_i_ge jF_246_4 (m_rgl rfl) (m_rgl rfl) rfl (pc2 := 7) ?_ ?_
        · intro h39; exfalso; omega
        · intro h39
          refine wp_al1 jF_246_7 rfl rfl (pc2 := 8) ?_
          refine wp_gr (b := 142) jF_246_8 kd117 (by decide) (c := 242) rfl rfl rfl (pc2 := 11) ?_
          refine wp_si jF_246_11 (by decide) rfl (pc2 := 14) ?_
          refine wp_bi jF_246_14 (by decide) rfl (pc2 := 16) ?_
          refine wp_il1 jF_246_16 rfl rfl (pc2 := 17) ?_
          refine wp_mul jF_246_17 rfl (pc2 := 18) ?_
          refine wp_add jF_246_18 rfl (pc2 := 19) ?_
          refine wp_il1 jF_246_19 rfl rfl (pc2 := 20) ?_
          refine wp_add jF_246_20 rfl (pc2 := 21) ?_
          have b40 := GI.b hg 142 ((204 + (6 * r)) + 1).toNat kd142 (lo := (-2147483648)) (hi := 2147483647) rfl
          refine wp_iald (n := 408) (e := (σ.1 142 ((204 + (6 * r)) + 1).toNat)) jF_246_21 kd142 (by decide) rfl rfl (by omega) (by omega) rfl rfl (pc2 := 22) ?_
          refine wp_ic jF_246_22 rfl (pc2 := 23) ?_
          refine wp_i_eq jF_246_23 (m_rgb b40 rfl) (m_rgl rfl) rfl (pc2 := 26) ?_ ?_
          · intro h41
            refine wp_inc (lv2 := [(0, .ref 117), (1, iV r), (2, iV k), (3, iV 2)]) jF_246_52 rfl rfl rfl rfl (pc2 := 55) ?_
            refine wp_go jF_246_55 ?_
            refine wp_il1 jF_246_2 rfl rfl (pc2 := 3) ?_
            refine wp_ic jF_246_3 rfl (pc2 := 4) ?_
            refine wp_i_ge jF_246_4 (m_rgl rfl) (m_rgl rfl) rfl (pc2 := 7) ?_ ?_
            · intro h42; exfalso; omega
            · intro h42
              refine wp_al1 jF_246_7 rfl rfl (pc2 := 8) ?_
              refine wp_gr (b := 142) jF_246_8 kd117 (by decide) (c := 242) rfl rfl rfl (pc2 := 11) ?_
              refine wp_si jF_246_11 (by decide) rfl (pc2 := 14) ?_
              refine wp_bi jF_246_14 (by decide) rfl (pc2 := 16) ?_
              refine wp_il1 jF_246_16 rfl rfl (pc2 := 17) ?_
              refine wp_mul jF_246_17 rfl (pc2 := 18) ?_
              refine wp_add jF_246_18 rfl (pc2 := 19) ?_
              refine wp_il1 jF_246_19 rfl rfl (pc2 := 20) ?_
              refine wp_add jF_246_20 rfl (pc2 := 21) ?_
              have b43 := GI.b hg 142 ((204 + (6 * r)) + 2).toNat kd142 (lo := (-2147483648)) (hi := 2147483647) rfl
              refine wp_iald (n := 408) (e := (σ.1 142 ((204 + (6 * r)) + 2).toNat)) jF_246_21 kd142 (by decide) rfl rfl (by omega) (by omega) rfl rfl (pc2 := 22) ?_
              refine wp_ic jF_246_22 rfl (pc2 := 23) ?_
              refine wp_i_eq jF_246_23 (m_rgb b43 rfl) (m_rgl rfl) rfl (pc2 := 26) ?_ ?_
              · intro h44
                refine wp_inc (lv2 := [(0, .ref 117), (1, iV r), (2, iV k), (3, iV 3)]) jF_246_52 rfl rfl rfl rfl (pc2 := 55) ?_
                refine wp_go jF_246_55 ?_
                refine wp_il1 jF_246_2 rfl rfl (pc2 := 3) ?_
                refine wp_ic jF_246_3 rfl (pc2 := 4) ?_
                refine wp_i_ge jF_246_4 (m_rgl rfl) (m_rgl rfl) rfl (pc2 := 7) ?_ ?_
                · intro h45
                  refine wp_ic jF_246_58 rfl (pc2 := 59) ?_
                  refine wp_ri jF_246_59 rfl ?_
                  exact ⟨1, rfl, ⟨by omega, by omega⟩, rfl⟩
                · intro h45; exfalso; omega
              · intro h44
                refine wp_al1 jF_246_26 rfl rfl (pc2 := 27) ?_
                refine wp_gr (b := 142) jF_246_27 kd117 (by decide) (c := 242) rfl rfl rfl (pc2 := 30) ?_
                refine wp_si jF_246_30 (by decide) rfl (pc2 := 33) ?_
                refine wp_bi jF_246_33 (by decide) rfl (pc2 := 35) ?_
                refine wp_il1 jF_246_35 rfl rfl (pc2 := 36) ?_
                refine wp_mul jF_246_36 rfl (pc2 := 37) ?_
                refine wp_add jF_246_37 rfl (pc2 := 38) ?_
                refine wp_il1 jF_246_38 rfl rfl (pc2 := 39) ?_
                refine wp_add jF_246_39 rfl (pc2 := 40) ?_
                refine wp_iald (n := 408) (e := (σ.1 142 ((204 + (6 * r)) + 2).toNat)) jF_246_40 kd142 (by decide) rfl rfl (by omega) (by omega) rfl rfl (pc2 := 41) ?_
                refine wp_al1 jF_246_41 rfl rfl (pc2 := 42) ?_
                refine wp_il1 jF_246_42 rfl rfl (pc2 := 43) ?_
                refine wp_il1 jF_246_43 rfl rfl (pc2 := 44) ?_
                refine wp_cV (as := [iV k, iV 2]) (rest := [iV (σ.1 142 ((204 + (6 * r)) + 2).toNat)]) (a := 117) (mx := 3) (ci := 12) jF_246_44 kd117 (by decide) rfl rfl rfl rfl rfl (by omega) (by omega) rfl (pc2 := 47) ?_
                refine wp_use (m_245_2 σ hg k (by omega) (by omega) (by omega) (by omega) _ _ (by omega) (by omega)) ?_
                rintro _ _ ⟨z49, rfl, h50, rfl, p46⟩
                show WP 246 47 [(0, .ref 117), (1, iV r), (2, iV k), (3, iV 2)] [iV z49, iV (σ.1 142 ((204 + (6 * r)) + 2).toNat)] _ _ _ _
                refine wp_i_eq jF_246_47 (m_rgb b43 rfl) (m_rgb h50 rfl) rfl (pc2 := 50) ?_ ?_
                · intro h51
                  refine wp_inc (lv2 := [(0, .ref 117), (1, iV r), (2, iV k), (3, iV 3)]) jF_246_52 rfl rfl rfl rfl (pc2 := 55) ?_
                  refine wp_go jF_246_55 ?_
                  refine wp_il1 jF_246_2 rfl rfl (pc2 := 3) ?_
                  refine wp_ic jF_246_3 rfl (pc2 := 4) ?_
                  refine wp_i_ge jF_246_4 (m_rgl rfl) (m_rgl rfl) rfl (pc2 := 7) ?_ ?_
                  · intro h52
                    refine wp_ic jF_246_58 rfl (pc2 := 59) ?_
                    refine wp_ri jF_246_59 rfl ?_
                    exact ⟨1, rfl, ⟨by omega, by omega⟩, rfl⟩
                  · intro h52; exfalso; omega
                · intro h51
                  refine wp_ic jF_246_50 rfl (pc2 := 51) ?_
                  refine wp_ri jF_246_51 rfl ?_
                  exact ⟨0, rfl, ⟨by omega, by omega⟩, rfl⟩
          · intro h41
            refine wp_al1 jF_246_26 rfl rfl (pc2 := 27) ?_
            refine wp_gr (b := 142) jF_246_27 kd117 (by decide) (c := 242) rfl rfl rfl (pc2 := 30) ?_
            refine wp_si jF_246_30 (by decide) rfl (pc2 := 33) ?_
            refine wp_bi jF_246_33 (by decide) rfl (pc2 := 35) ?_
            refine wp_il1 jF_246_35 rfl rfl (pc2 := 36) ?_
            refine wp_mul jF_246_36 rfl (pc2 := 37) ?_
            refine wp_add jF_246_37 rfl (pc2 := 38) ?_
            refine wp_il1 jF_246_38 rfl rfl (pc2 := 39) ?_
            refine wp_add jF_246_39 rfl (pc2 := 40) ?_
            refine wp_iald (n := 408) (e := (σ.1 142 ((204 + (6 * r)) + 1).toNat)) jF_246_40 kd142 (by decide) rfl rfl (by omega) (by omega) rfl rfl (pc2 := 41) ?_
            refine wp_al1 jF_246_41 rfl rfl (pc2 := 42) ?_
            refine wp_il1 jF_246_42 rfl rfl (pc2 := 43) ?_
            refine wp_il1 jF_246_43 rfl rfl (pc2 := 44) ?_
            refine wp_cV (as := [iV k, iV 1]) (rest := [iV (σ.1 142 ((204 + (6 * r)) + 1).toNat)]) (a := 117) (mx := 3) (ci := 12) jF_246_44 kd117 (by decide) rfl rfl rfl rfl rfl (by omega) (by omega) rfl (pc2 := 47) ?_
            refine wp_use (m_245_1 σ hg k (by omega) (by omega) (by omega) _ _ (by omega) (by omega)) ?_
            rintro _ _ ⟨z55, rfl, h56, rfl⟩
            show WP 246 47 [(0, .ref 117), (1, iV r), (2, iV k), (3, iV 1)] [iV z55, iV (σ.1 142 ((204 + (6 * r)) + 1).toNat)] _ _ _ _
            refine wp_i_eq jF_246_47 (m_rgb b40 rfl) (m_rgb h56 rfl) rfl (pc2 := 50) ?_ ?_
            · intro h57
              refine wp_inc (lv2 := [(0, .ref 117), (1, iV r), (2, iV k), (3, iV 2)]) jF_246_52 rfl rfl rfl rfl (pc2 := 55) ?_
              refine wp_go jF_246_55 ?_
              refine wp_il1 jF_246_2 rfl rfl (pc2 := 3) ?_
              refine wp_ic jF_246_3 rfl (pc2 := 4) ?_
              refine wp_i_ge jF_246_4 (m_rgl rfl) (m_rgl rfl) rfl (pc2 := 7) ?_ ?_
              · intro h58; exfalso; omega
              · intro h58
                refine wp_al1 jF_246_7 rfl rfl (pc2 := 8) ?_
                refine wp_gr (b := 142) jF_246_8 kd117 (by decide) (c := 242) rfl rfl rfl (pc2 := 11) ?_
                refine wp_si jF_246_11 (by decide) rfl (pc2 := 14) ?_
                refine wp_bi jF_246_14 (by decide) rfl (pc2 := 16) ?_
                refine wp_il1 jF_246_16 rfl rfl (pc2 := 17) ?_
                refine wp_mul jF_246_17 rfl (pc2 := 18) ?_
                refine wp_add jF_246_18 rfl (pc2 := 19) ?_
                refine wp_il1 jF_246_19 rfl rfl (pc2 := 20) ?_
                refine wp_add jF_246_20 rfl (pc2 := 21) ?_
                have b59 := GI.b hg 142 ((204 + (6 * r)) + 2).toNat kd142 (lo := (-2147483648)) (hi := 2147483647) rfl
                refine wp_iald (n := 408) (e := (σ.1 142 ((204 + (6 * r)) + 2).toNat)) jF_246_21 kd142 (by decide) rfl rfl (by omega) (by omega) rfl rfl (pc2 := 22) ?_
                refine wp_ic jF_246_22 rfl (pc2 := 23) ?_
                refine wp_i_eq jF_246_23 (m_rgb b59 rfl) (m_rgl rfl) rfl (pc2 := 26) ?_ ?_
                · intro h60
                  refine wp_inc (lv2 := [(0, .ref 117), (1, iV r), (2, iV k), (3, iV 3)]) jF_246_52 rfl rfl rfl rfl (pc2 := 55) ?_
                  refine wp_go jF_246_55 ?_
                  refine wp_il1 jF_246_2 rfl rfl (pc2 := 3) ?_
                  refine wp_ic jF_246_3 rfl (pc2 := 4) ?_
                  refine wp_i_ge jF_246_4 (m_rgl rfl) (m_rgl rfl) rfl (pc2 := 7) ?_ ?_
                  · intro h61
                    refine wp_ic jF_246_58 rfl (pc2 := 59) ?_
                    refine wp_ri jF_246_59 rfl ?_
                    exact ⟨1, rfl, ⟨by omega, by omega⟩, rfl⟩
                  · intro h61; exfalso; omega
                · intro h60
                  refine wp_al1 jF_246_26 rfl rfl (pc2 := 27) ?_
                  refine wp_gr (b := 142) jF_246_27 kd117 (by decide) (c := 242) rfl rfl rfl (pc2 := 30) ?_
                  refine wp_si jF_246_30 (by decide) rfl (pc2 := 33) ?_
                  refine wp_bi jF_246_33 (by decide) rfl (pc2 := 35) ?_
                  refine wp_il1 jF_246_35 rfl rfl (pc2 := 36) ?_
                  refine wp_mul jF_246_36 rfl (pc2 := 37) ?_
                  refine wp_add jF_246_37 rfl (pc2 := 38) ?_
                  refine wp_il1 jF_246_38 rfl rfl (pc2 := 39) ?_
                  refine wp_add jF_246_39 rfl (pc2 := 40) ?_
                  refine wp_iald (n := 408) (e := (σ.1 142 ((204 + (6 * r)) + 2).toNat)) jF_246_40 kd142 (by decide) rfl rfl (by omega) (by omega) rfl rfl (pc2 := 41) ?_
                  refine wp_al1 jF_246_41 rfl rfl (pc2 := 42) ?_
                  refine wp_il1 jF_246_42 rfl rfl (pc2 := 43) ?_
                  refine wp_il1 jF_246_43 rfl rfl (pc2 := 44) ?_
                  refine wp_cV (as := [iV k, iV 2]) (rest := [iV (σ.1 142 ((204 + (6 * r)) + 2).toNat)]) (a := 117) (mx := 3) (ci := 12) jF_246_44 kd117 (by decide) rfl rfl rfl rfl rfl (by omega) (by omega) rfl (pc2 := 47) ?_
                  refine wp_use (m_245_2 σ hg k (by omega) (by omega) (by omega) (by omega) _ _ (by omega) (by omega)) ?_
                  rintro _ _ ⟨z65, rfl, h66, rfl, p62⟩
                  show WP 246 47 [(0, .ref 117), (1, iV r), (2, iV k), (3, iV 2)] [iV z65, iV (σ.1 142 ((204 + (6 * r)) + 2).toNat)] _ _ _ _
                  refine wp_i_eq jF_246_47 (m_rgb b59 rfl) (m_rgb h66 rfl) rfl (pc2 := 50) ?_ ?_
                  · intro h67
                    refine wp_inc (lv2 := [(0, .ref 117), (1, iV r), (2, iV k), (3, iV 3)]) jF_246_52 rfl rfl rfl rfl (pc2 := 55) ?_
                    refine wp_go jF_246_55 ?_
                    refine wp_il1 jF_246_2 rfl rfl (pc2 := 3) ?_
                    refine wp_ic jF_246_3 rfl (pc2 := 4) ?_
                    refine wp_i_ge jF_246_4 (m_rgl rfl) (m_rgl rfl) rfl (pc2 := 7) ?_ ?_
                    · intro h68
                      refine wp_ic jF_246_58 rfl (pc2 := 59) ?_
                      refine wp_ri jF_246_59 rfl ?_
                      exact ⟨1, rfl, ⟨by omega, by omega⟩, rfl⟩
                    · intro h68; exfalso; omega
                  · intro h67
                    refine wp_ic jF_246_50 rfl (pc2 := 51) ?_
                    refine wp_ri jF_246_51 rfl ?_
                    exact ⟨0, rfl, ⟨by omega, by omega⟩, rfl⟩
            · intro h57
              refine wp_ic jF_246_50 rfl (pc2 := 51) ?_
              refine wp_ri jF_246_51 rfl ?_
              exact ⟨0, rfl, ⟨by omega, by omega⟩, rfl⟩
      · intro h38
        refine wp_ic jF_246_50 rfl (pc2 := 51) ?_
        refine wp_ri jF_246_51 rfl ?_
        exact ⟨0, rfl, ⟨by omega, by omega⟩, rfl⟩
