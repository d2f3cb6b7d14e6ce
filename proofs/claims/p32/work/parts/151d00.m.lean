set_option maxHeartbeats 4000000 in
set_option maxRecDepth 20000 in
/-- M.many -/
theorem m_244_0 (σ : jM) (hg : GI σ)   (fr lo : Nat) (hfr : 0 ≤ fr) (hlo : 0 ≤ lo) : WP 244 0 (lv_args 0 [.ref 117, iV 0]) [] fr lo σ (fun v τ => ∃ z : Int, v = some (iV z) ∧ (0 ≤ z ∧ z ≤ 4) ∧ σ = τ ∧ (z = (m0 σ))) := by
  show WP 244 0 [(0, .ref 117), (1, iV 0)] [] _ _ _ _
  refine wp_ic jF_244_0 rfl (pc2 := 1) ?_
  refine wp_is1 (lv2 := [(0, .ref 117), (1, iV 0), (2, iV 0)]) jF_244_1 rfl rfl rfl (pc2 := 2) ?_
  refine wp_ic jF_244_2 rfl (pc2 := 3) ?_
  refine wp_il1 jF_244_3 rfl rfl (pc2 := 4) ?_
  refine wp_mul jF_244_4 rfl (pc2 := 5) ?_
  refine wp_is1 (lv2 := [(0, .ref 117), (1, iV 0), (2, iV 0), (3, iV (4 * 0))]) jF_244_5 rfl rfl rfl (pc2 := 6) ?_
  refine wp_il1 jF_244_6 rfl rfl (pc2 := 7) ?_
  refine wp_ic jF_244_7 rfl (pc2 := 8) ?_
  refine wp_il1 jF_244_8 rfl rfl (pc2 := 9) ?_
  refine wp_mul jF_244_9 rfl (pc2 := 10) ?_
  refine wp_ic jF_244_10 rfl (pc2 := 11) ?_
  refine wp_add jF_244_11 rfl (pc2 := 12) ?_
  refine wp_i_ge jF_244_12 ⟨by omega, by omega⟩ ⟨by omega, by omega⟩ rfl (pc2 := 15) ?_ ?_
  · intro h1; exfalso; omega
  · intro h1
    refine wp_al1 jF_244_15 rfl rfl (pc2 := 16) ?_
    refine wp_gr (b := 138) jF_244_16 kd117 (by decide) (c := 238) rfl rfl rfl (pc2 := 19) ?_
    refine wp_bi jF_244_19 (by decide) rfl (pc2 := 21) ?_
    refine wp_il1 jF_244_21 rfl rfl (pc2 := 22) ?_
    refine wp_add jF_244_22 rfl (pc2 := 23) ?_
    refine wp_laldx (n := 36) (L := (σ.2.1 138 18)) jF_244_23 kd138 (by decide) rfl rfl (by omega) (by omega) rfl rfl (pc2 := 24) ?_
    refine wp_lc jF_244_24 rfl (pc2 := 25) ?_
    refine wp_lcmp2 (a := (Int64.toInt (σ.2.1 138 18))) (b := 0) jF_244_25 rfl (by decide) rfl (pc2 := 26) ?_
    intro z2 h3
    refine wp_z_eq jF_244_26 ⟨by omega, by omega⟩ rfl (pc2 := 29) ?_ ?_
    · intro h4
      have n5 := mB_0 (x := σ.2.1 138 18) (by omega)
      refine wp_inc (lv2 := [(0, .ref 117), (1, iV 0), (2, iV 0), (3, iV ((4 * 0) + 1))]) jF_244_32 rfl rfl rfl rfl (pc2 := 35) ?_
      refine wp_go jF_244_35 ?_
      refine wp_il1 jF_244_6 rfl rfl (pc2 := 7) ?_
      refine wp_ic jF_244_7 rfl (pc2 := 8) ?_
      refine wp_il1 jF_244_8 rfl rfl (pc2 := 9) ?_
      refine wp_mul jF_244_9 rfl (pc2 := 10) ?_
      refine wp_ic jF_244_10 rfl (pc2 := 11) ?_
      refine wp_add jF_244_11 rfl (pc2 := 12) ?_
      refine wp_i_ge jF_244_12 ⟨by omega, by omega⟩ ⟨by omega, by omega⟩ rfl (pc2 := 15) ?_ ?_
      · intro h6; exfalso; omega
      · intro h6
        refine wp_al1 jF_244_15 rfl rfl (pc2 := 16) ?_
        refine wp_gr (b := 138) jF_244_16 kd117 (by decide) (c := 238) rfl rfl rfl (pc2 := 19) ?_
        refine wp_bi jF_244_19 (by decide) rfl (pc2 := 21) ?_
        refine wp_il1 jF_244_21 rfl rfl (pc2 := 22) ?_
        refine wp_add jF_244_22 rfl (pc2 := 23) ?_
        refine wp_laldx (n := 36) (L := (σ.2.1 138 19)) jF_244_23 kd138 (by decide) rfl rfl (by omega) (by omega) rfl rfl (pc2 := 24) ?_
        refine wp_lc jF_244_24 rfl (pc2 := 25) ?_
        refine wp_lcmp2 (a := (Int64.toInt (σ.2.1 138 19))) (b := 0) jF_244_25 rfl (by decide) rfl (pc2 := 26) ?_
        intro z7 h8
        refine wp_z_eq jF_244_26 ⟨by omega, by omega⟩ rfl (pc2 := 29) ?_ ?_
        · intro h9
          have n10 := mB_0 (x := σ.2.1 138 19) (by omega)
          refine wp_inc (lv2 := [(0, .ref 117), (1, iV 0), (2, iV 0), (3, iV (((4 * 0) + 1) + 1))]) jF_244_32 rfl rfl rfl rfl (pc2 := 35) ?_
          refine wp_go jF_244_35 ?_
          refine wp_il1 jF_244_6 rfl rfl (pc2 := 7) ?_
          refine wp_ic jF_244_7 rfl (pc2 := 8) ?_
          refine wp_il1 jF_244_8 rfl rfl (pc2 := 9) ?_
          refine wp_mul jF_244_9 rfl (pc2 := 10) ?_
          refine wp_ic jF_244_10 rfl (pc2 := 11) ?_
          refine wp_add jF_244_11 rfl (pc2 := 12) ?_
          refine wp_i_ge jF_244_12 ⟨by omega, by omega⟩ ⟨by omega, by omega⟩ rfl (pc2 := 15) ?_ ?_
          · intro h11; exfalso; omega
          · intro h11
            refine wp_al1 jF_244_15 rfl rfl (pc2 := 16) ?_
            refine wp_gr (b := 138) jF_244_16 kd117 (by decide) (c := 238) rfl rfl rfl (pc2 := 19) ?_
            refine wp_bi jF_244_19 (by decide) rfl (pc2 := 21) ?_
            refine wp_il1 jF_244_21 rfl rfl (pc2 := 22) ?_
            refine wp_add jF_244_22 rfl (pc2 := 23) ?_
            refine wp_laldx (n := 36) (L := (σ.2.1 138 20)) jF_244_23 kd138 (by decide) rfl rfl (by omega) (by omega) rfl rfl (pc2 := 24) ?_
            refine wp_lc jF_244_24 rfl (pc2 := 25) ?_
            refine wp_lcmp2 (a := (Int64.toInt (σ.2.1 138 20))) (b := 0) jF_244_25 rfl (by decide) rfl (pc2 := 26) ?_
            intro z12 h13
            refine wp_z_eq jF_244_26 ⟨by omega, by omega⟩ rfl (pc2 := 29) ?_ ?_
            · intro h14
              have n15 := mB_0 (x := σ.2.1 138 20) (by omega)
              refine wp_inc (lv2 := [(0, .ref 117), (1, iV 0), (2, iV 0), (3, iV ((((4 * 0) + 1) + 1) + 1))]) jF_244_32 rfl rfl rfl rfl (pc2 := 35) ?_
              refine wp_go jF_244_35 ?_
              refine wp_il1 jF_244_6 rfl rfl (pc2 := 7) ?_
              refine wp_ic jF_244_7 rfl (pc2 := 8) ?_
              refine wp_il1 jF_244_8 rfl rfl (pc2 := 9) ?_
              refine wp_mul jF_244_9 rfl (pc2 := 10) ?_
              refine wp_ic jF_244_10 rfl (pc2 := 11) ?_
              refine wp_add jF_244_11 rfl (pc2 := 12) ?_
              refine wp_i_ge jF_244_12 ⟨by omega, by omega⟩ ⟨by omega, by omega⟩ rfl (pc2 := 15) ?_ ?_
              · intro h16; exfalso; omega
              · intro h16
                refine wp_al1 jF_244_15 rfl rfl (pc2 := 16) ?_
                refine wp_gr (b := 138) jF_244_16 kd117 (by decide) (c := 238) rfl rfl rfl (pc2 := 19) ?_
                refine wp_bi jF_244_19 (by decide) rfl (pc2 := 21) ?_
                refine wp_il1 jF_244_21 rfl rfl (pc2 := 22) ?_
                refine wp_add jF_244_22 rfl (pc2 := 23) ?_
                refine wp_laldx (n := 36) (L := (σ.2.1 138 21)) jF_244_23 kd138 (by decide) rfl rfl (by omega) (by omega) rfl rfl (pc2 := 24) ?_
                refine wp_lc jF_244_24 rfl (pc2 := 25) ?_
                refine wp_lcmp2 (a := (Int64.toInt (σ.2.1 138 21))) (b := 0) jF_244_25 rfl (by decide) rfl (pc2 := 26) ?_
                intro z17 h18
                refine wp_z_eq jF_244_26 ⟨by omega, by omega⟩ rfl (pc2 := 29) ?_ ?_
                · intro h19
                  have n20 := mB_0 (x := σ.2.1 138 21) (by omega)
                  refine wp_inc (lv2 := [(0, .ref 117), (1, iV 0), (2, iV 0), (3, iV (((((4 * 0) + 1) + 1) + 1) + 1))]) jF_244_32 rfl rfl rfl rfl (pc2 := 35) ?_
                  refine wp_go jF_244_35 ?_
                  refine wp_il1 jF_244_6 rfl rfl (pc2 := 7) ?_
                  refine wp_ic jF_244_7 rfl (pc2 := 8) ?_
                  refine wp_il1 jF_244_8 rfl rfl (pc2 := 9) ?_
                  refine wp_mul jF_244_9 rfl (pc2 := 10) ?_
                  refine wp_ic jF_244_10 rfl (pc2 := 11) ?_
                  refine wp_add jF_244_11 rfl (pc2 := 12) ?_
                  refine wp_i_ge jF_244_12 ⟨by omega, by omega⟩ ⟨by omega, by omega⟩ rfl (pc2 := 15) ?_ ?_
                  · intro h21
                    refine wp_il1 jF_244_38 rfl rfl (pc2 := 39) ?_
                    refine wp_ri jF_244_39 rfl ?_
                    exact ⟨0, rfl, ⟨by omega, by omega⟩, rfl, (by have e := m0_e (σ := σ); omega)⟩
                  · intro h21; exfalso; omega
                · intro h19
                  have n22 := mB_1 (x := σ.2.1 138 21) (by omega)
                  refine wp_inc (lv2 := [(0, .ref 117), (1, iV 0), (2, iV (0 + 1)), (3, iV ((((4 * 0) + 1) + 1) + 1))]) jF_244_29 rfl rfl rfl rfl (pc2 := 32) ?_
                  refine wp_inc (lv2 := [(0, .ref 117), (1, iV 0), (2, iV (0 + 1)), (3, iV (((((4 * 0) + 1) + 1) + 1) + 1))]) jF_244_32 rfl rfl rfl rfl (pc2 := 35) ?_
                  refine wp_go jF_244_35 ?_
                  refine wp_il1 jF_244_6 rfl rfl (pc2 := 7) ?_
                  refine wp_ic jF_244_7 rfl (pc2 := 8) ?_
                  refine wp_il1 jF_244_8 rfl rfl (pc2 := 9) ?_
                  refine wp_mul jF_244_9 rfl (pc2 := 10) ?_
                  refine wp_ic jF_244_10 rfl (pc2 := 11) ?_
                  refine wp_add jF_244_11 rfl (pc2 := 12) ?_
                  refine wp_i_ge jF_244_12 ⟨by omega, by omega⟩ ⟨by omega, by omega⟩ rfl (pc2 := 15) ?_ ?_
                  · intro h23
                    refine wp_il1 jF_244_38 rfl rfl (pc2 := 39) ?_
                    refine wp_ri jF_244_39 rfl ?_
                    exact ⟨(0 + 1), rfl, ⟨by omega, by omega⟩, rfl, (by have e := m0_e (σ := σ); omega)⟩
                  · intro h23; exfalso; omega
            · intro h14
              have n24 := mB_1 (x := σ.2.1 138 20) (by omega)
              refine wp_inc (lv2 := [(0, .ref 117), (1, iV 0), (2, iV (0 + 1)), (3, iV (((4 * 0) + 1) + 1))]) jF_244_29 rfl rfl rfl rfl (pc2 := 32) ?_
              refine wp_inc (lv2 := [(0, .ref 117), (1, iV 0), (2, iV (0 + 1)), (3, iV ((((4 * 0) + 1) + 1) + 1))]) jF_244_32 rfl rfl rfl rfl (pc2 := 35) ?_
              refine wp_go jF_244_35 ?_
              refine wp_il1 jF_244_6 rfl rfl (pc2 := 7) ?_
              refine wp_ic jF_244_7 rfl (pc2 := 8) ?_
              refine wp_il1 jF_244_8 rfl rfl (pc2 := 9) ?_
              refine wp_mul jF_244_9 rfl (pc2 := 10) ?_
              refine wp_ic jF_244_10 rfl (pc2 := 11) ?_
              refine wp_add jF_244_11 rfl (pc2 := 12) ?_
              refine wp_i_ge jF_244_12 ⟨by omega, by omega⟩ ⟨by omega, by omega⟩ rfl (pc2 := 15) ?_ ?_
              · intro h25; exfalso; omega
              · intro h25
                refine wp_al1 jF_244_15 rfl rfl (pc2 := 16) ?_
                refine wp_gr (b := 138) jF_244_16 kd117 (by decide) (c := 238) rfl rfl rfl (pc2 := 19) ?_
                refine wp_bi jF_244_19 (by decide) rfl (pc2 := 21) ?_
                refine wp_il1 jF_244_21 rfl rfl (pc2 := 22) ?_
                refine wp_add jF_244_22 rfl (pc2 := 23) ?_
                refine wp_laldx (n := 36) (L := (σ.2.1 138 21)) jF_244_23 kd138 (by decide) rfl rfl (by omega) (by omega) rfl rfl (pc2 := 24) ?_
                refine wp_lc jF_244_24 rfl (pc2 := 25) ?_
                refine wp_lcmp2 (a := (Int64.toInt (σ.2.1 138 21))) (b := 0) jF_244_25 rfl (by decide) rfl (pc2 := 26) ?_
                intro z26 h27
                refine wp_z_eq jF_244_26 ⟨by omega, by omega⟩ rfl (pc2 := 29) ?_ ?_
                · intro h28
                  have n29 := mB_0 (x := σ.2.1 138 21) (by omega)
                  refine wp_inc (lv2 := [(0, .ref 117), (1, iV 0), (2, iV (0 + 1)), (3, iV (((((4 * 0) + 1) + 1) + 1) + 1))]) jF_244_32 rfl rfl rfl rfl (pc2 := 35) ?_
                  refine wp_go jF_244_35 ?_
                  refine wp_il1 jF_244_6 rfl rfl (pc2 := 7) ?_
                  refine wp_ic jF_244_7 rfl (pc2 := 8) ?_
                  refine wp_il1 jF_244_8 rfl rfl (pc2 := 9) ?_
                  refine wp_mul jF_244_9 rfl (pc2 := 10) ?_
                  refine wp_ic jF_244_10 rfl (pc2 := 11) ?_
                  refine wp_add jF_244_11 rfl (pc2 := 12) ?_
                  refine wp_i_ge jF_244_12 ⟨by omega, by omega⟩ ⟨by omega, by omega⟩ rfl (pc2 := 15) ?_ ?_
                  · intro h30
                    refine wp_il1 jF_244_38 rfl rfl (pc2 := 39) ?_
                    refine wp_ri jF_244_39 rfl ?_
                    exact ⟨(0 + 1), rfl, ⟨by omega, by omega⟩, rfl, (by have e := m0_e (σ := σ); omega)⟩
                  · intro h30; exfalso; omega
                · intro h28
                  have n31 := mB_1 (x := σ.2.1 138 21) (by omega)
                  refine wp_inc (lv2 := [(0, .ref 117), (1, iV 0), (2, iV ((0 + 1) + 1)), (3, iV ((((4 * 0) + 1) + 1) + 1))]) jF_244_29 rfl rfl rfl rfl (pc2 := 32) ?_
                  refine wp_inc (lv2 := [(0, .ref 117), (1, iV 0), (2, iV ((0 + 1) + 1)), (3, iV (((((4 * 0) + 1) + 1) + 1) + 1))]) jF_244_32 rfl rfl rfl rfl (pc2 := 35) ?_
                  refine wp_go jF_244_35 ?_
                  refine wp_il1 jF_244_6 rfl rfl (pc2 := 7) ?_
                  refine wp_ic jF_244_7 rfl (pc2 := 8) ?_
                  refine wp_il1 jF_244_8 rfl rfl (pc2 := 9) ?_
                  refine wp_mul jF_244_9 rfl (pc2 := 10) ?_
                  refine wp_ic jF_244_10 rfl (pc2 := 11) ?_
                  refine wp_add jF_244_11 rfl (pc2 := 12) ?_
                  refine wp_i_ge jF_244_12 ⟨by omega, by omega⟩ ⟨by omega, by omega⟩ rfl (pc2 := 15) ?_ ?_
                  · intro h32
                    refine wp_il1 jF_244_38 rfl rfl (pc2 := 39) ?_
                    refine wp_ri jF_244_39 rfl ?_
                    exact ⟨((0 + 1) + 1), rfl, ⟨by omega, by omega⟩, rfl, (by have e := m0_e (σ := σ); omega)⟩
                  · intro h32; exfalso; omega
        · intro h9
          have n33 := mB_1 (x := σ.2.1 138 19) (by omega)
          refine wp_inc (lv2 := [(0, .ref 117), (1, iV 0), (2, iV (0 + 1)), (3, iV ((4 * 0) + 1))]) jF_244_29 rfl rfl rfl rfl (pc2 := 32) ?_
          refine wp_inc (lv2 := [(0, .ref 117), (1, iV 0), (2, iV (0 + 1)), (3, iV (((4 * 0) + 1) + 1))]) jF_244_32 rfl rfl rfl rfl (pc2 := 35) ?_
          refine wp_go jF_244_35 ?_
          refine wp_il1 jF_244_6 rfl rfl (pc2 := 7) ?_
          refine wp_ic jF_244_7 rfl (pc2 := 8) ?_
          refine wp_il1 jF_244_8 rfl rfl (pc2 := 9) ?_
          refine wp_mul jF_244_9 rfl (pc2 := 10) ?_
          refine wp_ic jF_244_10 rfl (pc2 := 11) ?_
          refine wp_add jF_244_11 rfl (pc2 := 12) ?_
          refine wp_i_ge jF_244_12 ⟨by omega, by omega⟩ ⟨by omega, by omega⟩ rfl (pc2 := 15) ?_ ?_
          · intro h34; exfalso; omega
          · intro h34
            refine wp_al1 jF_244_15 rfl rfl (pc2 := 16) ?_
            refine wp_gr (b := 138) jF_244_16 kd117 (by decide) (c := 238) rfl rfl rfl (pc2 := 19) ?_
            refine wp_bi jF_244_19 (by decide) rfl (pc2 := 21) ?_
            refine wp_il1 jF_244_21 rfl rfl (pc2 := 22) ?_
            refine wp_add jF_244_22 rfl (pc2 := 23) ?_
            refine wp_laldx (n := 36) (L := (σ.2.1 138 20)) jF_244_23 kd138 (by decide) rfl rfl (by omega) (by omega) rfl rfl (pc2 := 24) ?_
            refine wp_lc jF_244_24 rfl (pc2 := 25) ?_
            refine wp_lcmp2 (a := (Int64.toInt (σ.2.1 138 20))) (b := 0) jF_244_25 rfl (by decide) rfl (pc2 := 26) ?_
            intro z35 h36
            refine wp_z_eq jF_244_26 ⟨by omega, by omega⟩ rfl (pc2 := 29) ?_ ?_
            · intro h37
              have n38 := mB_0 (x := σ.2.1 138 20) (by omega)
              refine wp_inc (lv2 := [(0, .ref 117), (1, iV 0), (2, iV (0 + 1)), (3, iV ((((4 * 0) + 1) + 1) + 1))]) jF_244_32 rfl rfl rfl rfl (pc2 := 35) ?_
              refine wp_go jF_244_35 ?_
              refine wp_il1 jF_244_6 rfl rfl (pc2 := 7) ?_
              refine wp_ic jF_244_7 rfl (pc2 := 8) ?_
              refine wp_il1 jF_244_8 rfl rfl (pc2 := 9) ?_
              refine wp_mul jF_244_9 rfl (pc2 := 10) ?_
              refine wp_ic jF_244_10 rfl (pc2 := 11) ?_
              refine wp_add jF_244_11 rfl (pc2 := 12) ?_
              refine wp_i_ge jF_244_12 ⟨by omega, by omega⟩ ⟨by omega, by omega⟩ rfl (pc2 := 15) ?_ ?_
              · intro h39; exfalso; omega
              · intro h39
                refine wp_al1 jF_244_15 rfl rfl (pc2 := 16) ?_
                refine wp_gr (b := 138) jF_244_16 kd117 (by decide) (c := 238) rfl rfl rfl (pc2 := 19) ?_
                refine wp_bi jF_244_19 (by decide) rfl (pc2 := 21) ?_
                refine wp_il1 jF_244_21 rfl rfl (pc2 := 22) ?_
                refine wp_add jF_244_22 rfl (pc2 := 23) ?_
                refine wp_laldx (n := 36) (L := (σ.2.1 138 21)) jF_244_23 kd138 (by decide) rfl rfl (by omega) (by omega) rfl rfl (pc2 := 24) ?_
                refine wp_lc jF_244_24 rfl (pc2 := 25) ?_
                refine wp_lcmp2 (a := (Int64.toInt (σ.2.1 138 21))) (b := 0) jF_244_25 rfl (by decide) rfl (pc2 := 26) ?_
                intro z40 h41
                refine wp_z_eq jF_244_26 ⟨by omega, by omega⟩ rfl (pc2 := 29) ?_ ?_
                · intro h42
                  have n43 := mB_0 (x := σ.2.1 138 21) (by omega)
                  refine wp_inc (lv2 := [(0, .ref 117), (1, iV 0), (2, iV (0 + 1)), (3, iV (((((4 * 0) + 1) + 1) + 1) + 1))]) jF_244_32 rfl rfl rfl rfl (pc2 := 35) ?_
                  refine wp_go jF_244_35 ?_
                  refine wp_il1 jF_244_6 rfl rfl (pc2 := 7) ?_
                  refine wp_ic jF_244_7 rfl (pc2 := 8) ?_
                  refine wp_il1 jF_244_8 rfl rfl (pc2 := 9) ?_
                  refine wp_mul jF_244_9 rfl (pc2 := 10) ?_
                  refine wp_ic jF_244_10 rfl (pc2 := 11) ?_
                  refine wp_add jF_244_11 rfl (pc2 := 12) ?_
                  refine wp_i_ge jF_244_12 ⟨by omega, by omega⟩ ⟨by omega, by omega⟩ rfl (pc2 := 15) ?_ ?_
                  · intro h44
                    refine wp_il1 jF_244_38 rfl rfl (pc2 := 39) ?_
                    refine wp_ri jF_244_39 rfl ?_
                    exact ⟨(0 + 1), rfl, ⟨by omega, by omega⟩, rfl, (by have e := m0_e (σ := σ); omega)⟩
                  · intro h44; exfalso; omega
                · intro h42
                  have n45 := mB_1 (x := σ.2.1 138 21) (by omega)
                  refine wp_inc (lv2 := [(0, .ref 117), (1, iV 0), (2, iV ((0 + 1) + 1)), (3, iV ((((4 * 0) + 1) + 1) + 1))]) jF_244_29 rfl rfl rfl rfl (pc2 := 32) ?_
                  refine wp_inc (lv2 := [(0, .ref 117), (1, iV 0), (2, iV ((0 + 1) + 1)), (3, iV (((((4 * 0) + 1) + 1) + 1) + 1))]) jF_244_32 rfl rfl rfl rfl (pc2 := 35) ?_
                  refine wp_go jF_244_35 ?_
                  refine wp_il1 jF_244_6 rfl rfl (pc2 := 7) ?_
                  refine wp_ic jF_244_7 rfl (pc2 := 8) ?_
                  refine wp_il1 jF_244_8 rfl rfl (pc2 := 9) ?_
                  refine wp_mul jF_244_9 rfl (pc2 := 10) ?_
                  refine wp_ic jF_244_10 rfl (pc2 := 11) ?_
                  refine wp_add jF_244_11 rfl (pc2 := 12) ?_
                  refine wp_i_ge jF_244_12 ⟨by omega, by omega⟩ ⟨by omega, by omega⟩ rfl (pc2 := 15) ?_ ?_
                  · intro h46
                    refine wp_il1 jF_244_38 rfl rfl (pc2 := 39) ?_
                    refine wp_ri jF_244_39 rfl ?_
                    exact ⟨((0 + 1) + 1), rfl, ⟨by omega, by omega⟩, rfl, (by have e := m0_e (σ := σ); omega)⟩
                  · intro h46; exfalso; omega
            · intro h37
              have n47 := mB_1 (x := σ.2.1 138 20) (by omega)
              refine wp_inc (lv2 := [(0, .ref 117), (1, iV 0), (2, iV ((0 + 1) + 1)), (3, iV (((4 * 0) + 1) + 1))]) jF_244_29 rfl rfl rfl rfl (pc2 := 32) ?_
              refine wp_inc (lv2 := [(0, .ref 117), (1, iV 0), (2, iV ((0 + 1) + 1)), (3, iV ((((4 * 0) + 1) + 1) + 1))]) jF_244_32 rfl rfl rfl rfl (pc2 := 35) ?_
              refine wp_go jF_244_35 ?_
              refine wp_il1 jF_244_6 rfl rfl (pc2 := 7) ?_
              refine wp_ic jF_244_7 rfl (pc2 := 8) ?_
              refine wp_il1 jF_244_8 rfl rfl (pc2 := 9) ?_
              refine wp_mul jF_244_9 rfl (pc2 := 10) ?_
              refine wp_ic jF_244_10 rfl (pc2 := 11) ?_
              refine wp_add jF_244_11 rfl (pc2 := 12) ?_
              refine wp_i_ge jF_244_12 ⟨by omega, by omega⟩ ⟨by omega, by omega⟩ rfl (pc2 := 15) ?_ ?_
              · intro h48; exfalso; omega
              · intro h48
                refine wp_al1 jF_244_15 rfl rfl (pc2 := 16) ?_
                refine wp_gr (b := 138) jF_244_16 kd117 (by decide) (c := 238) rfl rfl rfl (pc2 := 19) ?_
                refine wp_bi jF_244_19 (by decide) rfl (pc2 := 21) ?_
                refine wp_il1 jF_244_21 rfl rfl (pc2 := 22) ?_
                refine wp_add jF_244_22 rfl (pc2 := 23) ?_
                refine wp_laldx (n := 36) (L := (σ.2.1 138 21)) jF_244_23 kd138 (by decide) rfl rfl (by omega) (by omega) rfl rfl (pc2 := 24) ?_
                refine wp_lc jF_244_24 rfl (pc2 := 25) ?_
                refine wp_lcmp2 (a := (Int64.toInt (σ.2.1 138 21))) (b := 0) jF_244_25 rfl (by decide) rfl (pc2 := 26) ?_
                intro z49 h50
                refine wp_z_eq jF_244_26 ⟨by omega, by omega⟩ rfl (pc2 := 29) ?_ ?_
                · intro h51
                  have n52 := mB_0 (x := σ.2.1 138 21) (by omega)
                  refine wp_inc (lv2 := [(0, .ref 117), (1, iV 0), (2, iV ((0 + 1) + 1)), (3, iV (((((4 * 0) + 1) + 1) + 1) + 1))]) jF_244_32 rfl rfl rfl rfl (pc2 := 35) ?_
                  refine wp_go jF_244_35 ?_
                  refine wp_il1 jF_244_6 rfl rfl (pc2 := 7) ?_
                  refine wp_ic jF_244_7 rfl (pc2 := 8) ?_
                  refine wp_il1 jF_244_8 rfl rfl (pc2 := 9) ?_
                  refine wp_mul jF_244_9 rfl (pc2 := 10) ?_
                  refine wp_ic jF_244_10 rfl (pc2 := 11) ?_
                  refine wp_add jF_244_11 rfl (pc2 := 12) ?_
                  refine wp_i_ge jF_244_12 ⟨by omega, by omega⟩ ⟨by omega, by omega⟩ rfl (pc2 := 15) ?_ ?_
                  · intro h53
                    refine wp_il1 jF_244_38 rfl rfl (pc2 := 39) ?_
                    refine wp_ri jF_244_39 rfl ?_
                    exact ⟨((0 + 1) + 1), rfl, ⟨by omega, by omega⟩, rfl, (by have e := m0_e (σ := σ); omega)⟩
                  · intro h53; exfalso; omega
                · intro h51
                  have n54 := mB_1 (x := σ.2.1 138 21) (by omega)
                  refine wp_inc (lv2 := [(0, .ref 117), (1, iV 0), (2, iV (((0 + 1) + 1) + 1)), (3, iV ((((4 * 0) + 1) + 1) + 1))]) jF_244_29 rfl rfl rfl rfl (pc2 := 32) ?_
                  refine wp_inc (lv2 := [(0, .ref 117), (1, iV 0), (2, iV (((0 + 1) + 1) + 1)), (3, iV (((((4 * 0) + 1) + 1) + 1) + 1))]) jF_244_32 rfl rfl rfl rfl (pc2 := 35) ?_
                  refine wp_go jF_244_35 ?_
                  refine wp_il1 jF_244_6 rfl rfl (pc2 := 7) ?_
                  refine wp_ic jF_244_7 rfl (pc2 := 8) ?_
                  refine wp_il1 jF_244_8 rfl rfl (pc2 := 9) ?_
                  refine wp_mul jF_244_9 rfl (pc2 := 10) ?_
                  refine wp_ic jF_244_10 rfl (pc2 := 11) ?_
                  refine wp_add jF_244_11 rfl (pc2 := 12) ?_
                  refine wp_i_ge jF_244_12 ⟨by omega, by omega⟩ ⟨by omega, by omega⟩ rfl (pc2 := 15) ?_ ?_
                  · intro h55
                    refine wp_il1 jF_244_38 rfl rfl (pc2 := 39) ?_
                    refine wp_ri jF_244_39 rfl ?_
                    exact ⟨(((0 + 1) + 1) + 1), rfl, ⟨by omega, by omega⟩, rfl, (by have e := m0_e (σ := σ); omega)⟩
                  · intro h55; exfalso; omega
    · intro h4
      have n56 := mB_1 (x := σ.2.1 138 18) (by omega)
      refine wp_inc (lv2 := [(0, .ref 117), (1, iV 0), (2, iV (0 + 1)), (3, iV (4 * 0))]) jF_244_29 rfl rfl rfl rfl (pc2 := 32) ?_
      refine wp_inc (lv2 := [(0, .ref 117), (1, iV 0), (2, iV (0 + 1)), (3, iV ((4 * 0) + 1))]) jF_244_32 rfl rfl rfl rfl (pc2 := 35) ?_
      refine wp_go jF_244_35 ?_
      refine wp_il1 jF_244_6 rfl rfl (pc2 := 7) ?_
      refine wp_ic jF_244_7 rfl (pc2 := 8) ?_
      refine wp_il1 jF_244_8 rfl rfl (pc2 := 9) ?_
      refine wp_mul jF_244_9 rfl (pc2 := 10) ?_
      refine wp_ic jF_244_10 rfl (pc2 := 11) ?_
      refine wp_add jF_244_11 rfl (pc2 := 12) ?_
      refine wp_i_ge jF_244_12 ⟨by omega, by omega⟩ ⟨by omega, by omega⟩ rfl (pc2 := 15) ?_ ?_
      · intro h57; exfalso; omega
      · intro h57
        refine wp_al1 jF_244_15 rfl rfl (pc2 := 16) ?_
        refine wp_gr (b := 138) jF_244_16 kd117 (by decide) (c := 238) rfl rfl rfl (pc2 := 19) ?_
        refine wp_bi jF_244_19 (by decide) rfl (pc2 := 21) ?_
        refine wp_il1 jF_244_21 rfl rfl (pc2 := 22) ?_
        refine wp_add jF_244_22 rfl (pc2 := 23) ?_
        refine wp_laldx (n := 36) (L := (σ.2.1 138 19)) jF_244_23 kd138 (by decide) rfl rfl (by omega) (by omega) rfl rfl (pc2 := 24) ?_
        refine wp_lc jF_244_24 rfl (pc2 := 25) ?_
        refine wp_lcmp2 (a := (Int64.toInt (σ.2.1 138 19))) (b := 0) jF_244_25 rfl (by decide) rfl (pc2 := 26) ?_
        intro z58 h59
        refine wp_z_eq jF_244_26 ⟨by omega, by omega⟩ rfl (pc2 := 29) ?_ ?_
        · intro h60
          have n61 := mB_0 (x := σ.2.1 138 19) (by omega)
          refine wp_inc (lv2 := [(0, .ref 117), (1, iV 0), (2, iV (0 + 1)), (3, iV (((4 * 0) + 1) + 1))]) jF_244_32 rfl rfl rfl rfl (pc2 := 35) ?_
          refine wp_go jF_244_35 ?_
          refine wp_il1 jF_244_6 rfl rfl (pc2 := 7) ?_
          refine wp_ic jF_244_7 rfl (pc2 := 8) ?_
          refine wp_il1 jF_244_8 rfl rfl (pc2 := 9) ?_
          refine wp_mul jF_244_9 rfl (pc2 := 10) ?_
          refine wp_ic jF_244_10 rfl (pc2 := 11) ?_
          refine wp_add jF_244_11 rfl (pc2 := 12) ?_
          refine wp_i_ge jF_244_12 ⟨by omega, by omega⟩ ⟨by omega, by omega⟩ rfl (pc2 := 15) ?_ ?_
          · intro h62; exfalso; omega
          · intro h62
            refine wp_al1 jF_244_15 rfl rfl (pc2 := 16) ?_
            refine wp_gr (b := 138) jF_244_16 kd117 (by decide) (c := 238) rfl rfl rfl (pc2 := 19) ?_
            refine wp_bi jF_244_19 (by decide) rfl (pc2 := 21) ?_
            refine wp_il1 jF_244_21 rfl rfl (pc2 := 22) ?_
            refine wp_add jF_244_22 rfl (pc2 := 23) ?_
            refine wp_laldx (n := 36) (L := (σ.2.1 138 20)) jF_244_23 kd138 (by decide) rfl rfl (by omega) (by omega) rfl rfl (pc2 := 24) ?_
            refine wp_lc jF_244_24 rfl (pc2 := 25) ?_
            refine wp_lcmp2 (a := (Int64.toInt (σ.2.1 138 20))) (b := 0) jF_244_25 rfl (by decide) rfl (pc2 := 26) ?_
            intro z63 h64
            refine wp_z_eq jF_244_26 ⟨by omega, by omega⟩ rfl (pc2 := 29) ?_ ?_
            · intro h65
              have n66 := mB_0 (x := σ.2.1 138 20) (by omega)
              refine wp_inc (lv2 := [(0, .ref 117), (1, iV 0), (2, iV (0 + 1)), (3, iV ((((4 * 0) + 1) + 1) + 1))]) jF_244_32 rfl rfl rfl rfl (pc2 := 35) ?_
              refine wp_go jF_244_35 ?_
              refine wp_il1 jF_244_6 rfl rfl (pc2 := 7) ?_
              refine wp_ic jF_244_7 rfl (pc2 := 8) ?_
              refine wp_il1 jF_244_8 rfl rfl (pc2 := 9) ?_
              refine wp_mul jF_244_9 rfl (pc2 := 10) ?_
              refine wp_ic jF_244_10 rfl (pc2 := 11) ?_
              refine wp_add jF_244_11 rfl (pc2 := 12) ?_
              refine wp_i_ge jF_244_12 ⟨by omega, by omega⟩ ⟨by omega, by omega⟩ rfl (pc2 := 15) ?_ ?_
              · intro h67; exfalso; omega
              · intro h67
                refine wp_al1 jF_244_15 rfl rfl (pc2 := 16) ?_
                refine wp_gr (b := 138) jF_244_16 kd117 (by decide) (c := 238) rfl rfl rfl (pc2 := 19) ?_
                refine wp_bi jF_244_19 (by decide) rfl (pc2 := 21) ?_
                refine wp_il1 jF_244_21 rfl rfl (pc2 := 22) ?_
                refine wp_add jF_244_22 rfl (pc2 := 23) ?_
                refine wp_laldx (n := 36) (L := (σ.2.1 138 21)) jF_244_23 kd138 (by decide) rfl rfl (by omega) (by omega) rfl rfl (pc2 := 24) ?_
                refine wp_lc jF_244_24 rfl (pc2 := 25) ?_
                refine wp_lcmp2 (a := (Int64.toInt (σ.2.1 138 21))) (b := 0) jF_244_25 rfl (by decide) rfl (pc2 := 26) ?_
                intro z68 h69
                refine wp_z_eq jF_244_26 ⟨by omega, by omega⟩ rfl (pc2 := 29) ?_ ?_
                · intro h70
                  have n71 := mB_0 (x := σ.2.1 138 21) (by omega)
                  refine wp_inc (lv2 := [(0, .ref 117), (1, iV 0), (2, iV (0 + 1)), (3, iV (((((4 * 0) + 1) + 1) + 1) + 1))]) jF_244_32 rfl rfl rfl rfl (pc2 := 35) ?_
                  refine wp_go jF_244_35 ?_
                  refine wp_il1 jF_244_6 rfl rfl (pc2 := 7) ?_
                  refine wp_ic jF_244_7 rfl (pc2 := 8) ?_
                  refine wp_il1 jF_244_8 rfl rfl (pc2 := 9) ?_
                  refine wp_mul jF_244_9 rfl (pc2 := 10) ?_
                  refine wp_ic jF_244_10 rfl (pc2 := 11) ?_
                  refine wp_add jF_244_11 rfl (pc2 := 12) ?_
                  refine wp_i_ge jF_244_12 ⟨by omega, by omega⟩ ⟨by omega, by omega⟩ rfl (pc2 := 15) ?_ ?_
                  · intro h72
                    refine wp_il1 jF_244_38 rfl rfl (pc2 := 39) ?_
                    refine wp_ri jF_244_39 rfl ?_
                    exact ⟨(0 + 1), rfl, ⟨by omega, by omega⟩, rfl, (by have e := m0_e (σ := σ); omega)⟩
                  · intro h72; exfalso; omega
                · intro h70
                  have n73 := mB_1 (x := σ.2.1 138 21) (by omega)
                  refine wp_inc (lv2 := [(0, .ref 117), (1, iV 0), (2, iV ((0 + 1) + 1)), (3, iV ((((4 * 0) + 1) + 1) + 1))]) jF_244_29 rfl rfl rfl rfl (pc2 := 32) ?_
                  refine wp_inc (lv2 := [(0, .ref 117), (1, iV 0), (2, iV ((0 + 1) + 1)), (3, iV (((((4 * 0) + 1) + 1) + 1) + 1))]) jF_244_32 rfl rfl rfl rfl (pc2 := 35) ?_
                  refine wp_go jF_244_35 ?_
                  refine wp_il1 jF_244_6 rfl rfl (pc2 := 7) ?_
                  refine wp_ic jF_244_7 rfl (pc2 := 8) ?_
                  refine wp_il1 jF_244_8 rfl rfl (pc2 := 9) ?_
                  refine wp_mul jF_244_9 rfl (pc2 := 10) ?_
                  refine wp_ic jF_244_10 rfl (pc2 := 11) ?_
                  refine wp_add jF_244_11 rfl (pc2 := 12) ?_
                  refine wp_i_ge jF_244_12 ⟨by omega, by omega⟩ ⟨by omega, by omega⟩ rfl (pc2 := 15) ?_ ?_
                  · intro h74
                    refine wp_il1 jF_244_38 rfl rfl (pc2 := 39) ?_
                    refine wp_ri jF_244_39 rfl ?_
                    exact ⟨((0 + 1) + 1), rfl, ⟨by omega, by omega⟩, rfl, (by have e := m0_e (σ := σ); omega)⟩
                  · intro h74; exfalso; omega
            · intro h65
              have n75 := mB_1 (x := σ.2.1 138 20) (by omega)
              refine wp_inc (lv2 := [(0, .ref 117), (1, iV 0), (2, iV ((0 + 1) + 1)), (3, iV (((4 * 0) + 1) + 1))]) jF_244_29 rfl rfl rfl rfl (pc2 := 32) ?_
              refine wp_inc (lv2 := [(0, .ref 117), (1, iV 0), (2, iV ((0 + 1) + 1)), (3, iV ((((4 * 0) + 1) + 1) + 1))]) jF_244_32 rfl rfl rfl rfl (pc2 := 35) ?_
              refine wp_go jF_244_35 ?_
              refine wp_il1 jF_244_6 rfl rfl (pc2 := 7) ?_
              refine wp_ic jF_244_7 rfl (pc2 := 8) ?_
              refine wp_il1 jF_244_8 rfl rfl (pc2 := 9) ?_
              refine wp_mul jF_244_9 rfl (pc2 := 10) ?_
              refine wp_ic jF_244_10 rfl (pc2 := 11) ?_
              refine wp_add jF_244_11 rfl (pc2 := 12) ?_
              refine wp_i_ge jF_244_12 ⟨by omega, by omega⟩ ⟨by omega, by omega⟩ rfl (pc2 := 15) ?_ ?_
              · intro h76; exfalso; omega
              · intro h76
                refine wp_al1 jF_244_15 rfl rfl (pc2 := 16) ?_
                refine wp_gr (b := 138) jF_244_16 kd117 (by decide) (c := 238) rfl rfl rfl (pc2 := 19) ?_
                refine wp_bi jF_244_19 (by decide) rfl (pc2 := 21) ?_
                refine wp_il1 jF_244_21 rfl rfl (pc2 := 22) ?_
                refine wp_add jF_244_22 rfl (pc2 := 23) ?_
                refine wp_laldx (n := 36) (L := (σ.2.1 138 21)) jF_244_23 kd138 (by decide) rfl rfl (by omega) (by omega) rfl rfl (pc2 := 24) ?_
                refine wp_lc jF_244_24 rfl (pc2 := 25) ?_
                refine wp_lcmp2 (a := (Int64.toInt (σ.2.1 138 21))) (b := 0) jF_244_25 rfl (by decide) rfl (pc2 := 26) ?_
                intro z77 h78
                refine wp_z_eq jF_244_26 ⟨by omega, by omega⟩ rfl (pc2 := 29) ?_ ?_
                · intro h79
                  have n80 := mB_0 (x := σ.2.1 138 21) (by omega)
                  refine wp_inc (lv2 := [(0, .ref 117), (1, iV 0), (2, iV ((0 + 1) + 1)), (3, iV (((((4 * 0) + 1) + 1) + 1) + 1))]) jF_244_32 rfl rfl rfl rfl (pc2 := 35) ?_
                  refine wp_go jF_244_35 ?_
                  refine wp_il1 jF_244_6 rfl rfl (pc2 := 7) ?_
                  refine wp_ic jF_244_7 rfl (pc2 := 8) ?_
                  refine wp_il1 jF_244_8 rfl rfl (pc2 := 9) ?_
                  refine wp_mul jF_244_9 rfl (pc2 := 10) ?_
                  refine wp_ic jF_244_10 rfl (pc2 := 11) ?_
                  refine wp_add jF_244_11 rfl (pc2 := 12) ?_
                  refine wp_i_ge jF_244_12 ⟨by omega, by omega⟩ ⟨by omega, by omega⟩ rfl (pc2 := 15) ?_ ?_
                  · intro h81
                    refine wp_il1 jF_244_38 rfl rfl (pc2 := 39) ?_
                    refine wp_ri jF_244_39 rfl ?_
                    exact ⟨((0 + 1) + 1), rfl, ⟨by omega, by omega⟩, rfl, (by have e := m0_e (σ := σ); omega)⟩
                  · intro h81; exfalso; omega
                · intro h79
                  have n82 := mB_1 (x := σ.2.1 138 21) (by omega)
                  refine wp_inc (lv2 := [(0, .ref 117), (1, iV 0), (2, iV (((0 + 1) + 1) + 1)), (3, iV ((((4 * 0) + 1) + 1) + 1))]) jF_244_29 rfl rfl rfl rfl (pc2 := 32) ?_
                  refine wp_inc (lv2 := [(0, .ref 117), (1, iV 0), (2, iV (((0 + 1) + 1) + 1)), (3, iV (((((4 * 0) + 1) + 1) + 1) + 1))]) jF_244_32 rfl rfl rfl rfl (pc2 := 35) ?_
                  refine wp_go jF_244_35 ?_
                  refine wp_il1 jF_244_6 rfl rfl (pc2 := 7) ?_
                  refine wp_ic jF_244_7 rfl (pc2 := 8) ?_
                  refine wp_il1 jF_244_8 rfl rfl (pc2 := 9) ?_
                  refine wp_mul jF_244_9 rfl (pc2 := 10) ?_
                  refine wp_ic jF_244_10 rfl (pc2 := 11) ?_
                  refine wp_add jF_244_11 rfl (pc2 := 12) ?_
                  refine wp_i_ge jF_244_12 ⟨by omega, by omega⟩ ⟨by omega, by omega⟩ rfl (pc2 := 15) ?_ ?_
                  · intro h83
                    refine wp_il1 jF_244_38 rfl rfl (pc2 := 39) ?_
                    refine wp_ri jF_244_39 rfl ?_
                    exact ⟨(((0 + 1) + 1) + 1), rfl, ⟨by omega, by omega⟩, rfl, (by have e := m0_e (σ := σ); omega)⟩
                  · intro h83; exfalso; omega
        · intro h60
          have n84 := mB_1 (x := σ.2.1 138 19) (by omega)
          refine wp_inc (lv2 := [(0, .ref 117), (1, iV 0), (2, iV ((0 + 1) + 1)), (3, iV ((4 * 0) + 1))]) jF_244_29 rfl rfl rfl rfl (pc2 := 32) ?_
          refine wp_inc (lv2 := [(0, .ref 117), (1, iV 0), (2, iV ((0 + 1) + 1)), (3, iV (((4 * 0) + 1) + 1))]) jF_244_32 rfl rfl rfl rfl (pc2 := 35) ?_
          refine wp_go jF_244_35 ?_
          refine wp_il1 jF_244_6 rfl rfl (pc2 := 7) ?_
          refine wp_ic jF_244_7 rfl (pc2 := 8) ?_
          refine wp_il1 jF_244_8 rfl rfl (pc2 := 9) ?_
          refine wp_mul jF_244_9 rfl (pc2 := 10) ?_
          refine wp_ic jF_244_10 rfl (pc2 := 11) ?_
          refine wp_add jF_244_11 rfl (pc2 := 12) ?_
          refine wp_i_ge jF_244_12 ⟨by omega, by omega⟩ ⟨by omega, by omega⟩ rfl (pc2 := 15) ?_ ?_
          · intro h85; exfalso; omega
          · intro h85
            refine wp_al1 jF_244_15 rfl rfl (pc2 := 16) ?_
            refine wp_gr (b := 138) jF_244_16 kd117 (by decide) (c := 238) rfl rfl rfl (pc2 := 19) ?_
            refine wp_bi jF_244_19 (by decide) rfl (pc2 := 21) ?_
            refine wp_il1 jF_244_21 rfl rfl (pc2 := 22) ?_
            refine wp_add jF_244_22 rfl (pc2 := 23) ?_
            refine wp_laldx (n := 36) (L := (σ.2.1 138 20)) jF_244_23 kd138 (by decide) rfl rfl (by omega) (by omega) rfl rfl (pc2 := 24) ?_
            refine wp_lc jF_244_24 rfl (pc2 := 25) ?_
            refine wp_lcmp2 (a := (Int64.toInt (σ.2.1 138 20))) (b := 0) jF_244_25 rfl (by decide) rfl (pc2 := 26) ?_
            intro z86 h87
            refine wp_z_eq jF_244_26 ⟨by omega, by omega⟩ rfl (pc2 := 29) ?_ ?_
            · intro h88
              have n89 := mB_0 (x := σ.2.1 138 20) (by omega)
              refine wp_inc (lv2 := [(0, .ref 117), (1, iV 0), (2, iV ((0 + 1) + 1)), (3, iV ((((4 * 0) + 1) + 1) + 1))]) jF_244_32 rfl rfl rfl rfl (pc2 := 35) ?_
              refine wp_go jF_244_35 ?_
              refine wp_il1 jF_244_6 rfl rfl (pc2 := 7) ?_
              refine wp_ic jF_244_7 rfl (pc2 := 8) ?_
              refine wp_il1 jF_244_8 rfl rfl (pc2 := 9) ?_
              refine wp_mul jF_244_9 rfl (pc2 := 10) ?_
              refine wp_ic jF_244_10 rfl (pc2 := 11) ?_
              refine wp_add jF_244_11 rfl (pc2 := 12) ?_
              refine wp_i_ge jF_244_12 ⟨by omega, by omega⟩ ⟨by omega, by omega⟩ rfl (pc2 := 15) ?_ ?_
              · intro h90; exfalso; omega
              · intro h90
                refine wp_al1 jF_244_15 rfl rfl (pc2 := 16) ?_
                refine wp_gr (b := 138) jF_244_16 kd117 (by decide) (c := 238) rfl rfl rfl (pc2 := 19) ?_
                refine wp_bi jF_244_19 (by decide) rfl (pc2 := 21) ?_
                refine wp_il1 jF_244_21 rfl rfl (pc2 := 22) ?_
                refine wp_add jF_244_22 rfl (pc2 := 23) ?_
                refine wp_laldx (n := 36) (L := (σ.2.1 138 21)) jF_244_23 kd138 (by decide) rfl rfl (by omega) (by omega) rfl rfl (pc2 := 24) ?_
                refine wp_lc jF_244_24 rfl (pc2 := 25) ?_
                refine wp_lcmp2 (a := (Int64.toInt (σ.2.1 138 21))) (b := 0) jF_244_25 rfl (by decide) rfl (pc2 := 26) ?_
                intro z91 h92
                refine wp_z_eq jF_244_26 ⟨by omega, by omega⟩ rfl (pc2 := 29) ?_ ?_
                · intro h93
                  have n94 := mB_0 (x := σ.2.1 138 21) (by omega)
                  refine wp_inc (lv2 := [(0, .ref 117), (1, iV 0), (2, iV ((0 + 1) + 1)), (3, iV (((((4 * 0) + 1) + 1) + 1) + 1))]) jF_244_32 rfl rfl rfl rfl (pc2 := 35) ?_
                  refine wp_go jF_244_35 ?_
                  refine wp_il1 jF_244_6 rfl rfl (pc2 := 7) ?_
                  refine wp_ic jF_244_7 rfl (pc2 := 8) ?_
                  refine wp_il1 jF_244_8 rfl rfl (pc2 := 9) ?_
                  refine wp_mul jF_244_9 rfl (pc2 := 10) ?_
                  refine wp_ic jF_244_10 rfl (pc2 := 11) ?_
                  refine wp_add jF_244_11 rfl (pc2 := 12) ?_
                  refine wp_i_ge jF_244_12 ⟨by omega, by omega⟩ ⟨by omega, by omega⟩ rfl (pc2 := 15) ?_ ?_
                  · intro h95
                    refine wp_il1 jF_244_38 rfl rfl (pc2 := 39) ?_
                    refine wp_ri jF_244_39 rfl ?_
                    exact ⟨((0 + 1) + 1), rfl, ⟨by omega, by omega⟩, rfl, (by have e := m0_e (σ := σ); omega)⟩
                  · intro h95; exfalso; omega
                · intro h93
                  have n96 := mB_1 (x := σ.2.1 138 21) (by omega)
                  refine wp_inc (lv2 := [(0, .ref 117), (1, iV 0), (2, iV (((0 + 1) + 1) + 1)), (3, iV ((((4 * 0) + 1) + 1) + 1))]) jF_244_29 rfl rfl rfl rfl (pc2 := 32) ?_
                  refine wp_inc (lv2 := [(0, .ref 117), (1, iV 0), (2, iV (((0 + 1) + 1) + 1)), (3, iV (((((4 * 0) + 1) + 1) + 1) + 1))]) jF_244_32 rfl rfl rfl rfl (pc2 := 35) ?_
                  refine wp_go jF_244_35 ?_
                  refine wp_il1 jF_244_6 rfl rfl (pc2 := 7) ?_
                  refine wp_ic jF_244_7 rfl (pc2 := 8) ?_
                  refine wp_il1 jF_244_8 rfl rfl (pc2 := 9) ?_
                  refine wp_mul jF_244_9 rfl (pc2 := 10) ?_
                  refine wp_ic jF_244_10 rfl (pc2 := 11) ?_
                  refine wp_add jF_244_11 rfl (pc2 := 12) ?_
                  refine wp_i_ge jF_244_12 ⟨by omega, by omega⟩ ⟨by omega, by omega⟩ rfl (pc2 := 15) ?_ ?_
                  · intro h97
                    refine wp_il1 jF_244_38 rfl rfl (pc2 := 39) ?_
                    refine wp_ri jF_244_39 rfl ?_
                    exact ⟨(((0 + 1) + 1) + 1), rfl, ⟨by omega, by omega⟩, rfl, (by have e := m0_e (σ := σ); omega)⟩
                  · intro h97; exfalso; omega
            · intro h88
              have n98 := mB_1 (x := σ.2.1 138 20) (by omega)
              refine wp_inc (lv2 := [(0, .ref 117), (1, iV 0), (2, iV (((0 + 1) + 1) + 1)), (3, iV (((4 * 0) + 1) + 1))]) jF_244_29 rfl rfl rfl rfl (pc2 := 32) ?_
              refine wp_inc (lv2 := [(0, .ref 117), (1, iV 0), (2, iV (((0 + 1) + 1) + 1)), (3, iV ((((4 * 0) + 1) + 1) + 1))]) jF_244_32 rfl rfl rfl rfl (pc2 := 35) ?_
              refine wp_go jF_244_35 ?_
              refine wp_il1 jF_244_6 rfl rfl (pc2 := 7) ?_
              refine wp_ic jF_244_7 rfl (pc2 := 8) ?_
              refine wp_il1 jF_244_8 rfl rfl (pc2 := 9) ?_
              refine wp_mul jF_244_9 rfl (pc2 := 10) ?_
              refine wp_ic jF_244_10 rfl (pc2 := 11) ?_
              refine wp_add jF_244_11 rfl (pc2 := 12) ?_
              refine wp_i_ge jF_244_12 ⟨by omega, by omega⟩ ⟨by omega, by omega⟩ rfl (pc2 := 15) ?_ ?_
              · intro h99; exfalso; omega
              · intro h99
                refine wp_al1 jF_244_15 rfl rfl (pc2 := 16) ?_
                refine wp_gr (b := 138) jF_244_16 kd117 (by decide) (c := 238) rfl rfl rfl (pc2 := 19) ?_
                refine wp_bi jF_244_19 (by decide) rfl (pc2 := 21) ?_
                refine wp_il1 jF_244_21 rfl rfl (pc2 := 22) ?_
                refine wp_add jF_244_22 rfl (pc2 := 23) ?_
                refine wp_laldx (n := 36) (L := (σ.2.1 138 21)) jF_244_23 kd138 (by decide) rfl rfl (by omega) (by omega) rfl rfl (pc2 := 24) ?_
                refine wp_lc jF_244_24 rfl (pc2 := 25) ?_
                refine wp_lcmp2 (a := (Int64.toInt (σ.2.1 138 21))) (b := 0) jF_244_25 rfl (by decide) rfl (pc2 := 26) ?_
                intro z100 h101
                refine wp_z_eq jF_244_26 ⟨by omega, by omega⟩ rfl (pc2 := 29) ?_ ?_
                · intro h102
                  have n103 := mB_0 (x := σ.2.1 138 21) (by omega)
                  refine wp_inc (lv2 := [(0, .ref 117), (1, iV 0), (2, iV (((0 + 1) + 1) + 1)), (3, iV (((((4 * 0) + 1) + 1) + 1) + 1))]) jF_244_32 rfl rfl rfl rfl (pc2 := 35) ?_
                  refine wp_go jF_244_35 ?_
                  refine wp_il1 jF_244_6 rfl rfl (pc2 := 7) ?_
                  refine wp_ic jF_244_7 rfl (pc2 := 8) ?_
                  refine wp_il1 jF_244_8 rfl rfl (pc2 := 9) ?_
                  refine wp_mul jF_244_9 rfl (pc2 := 10) ?_
                  refine wp_ic jF_244_10 rfl (pc2 := 11) ?_
                  refine wp_add jF_244_11 rfl (pc2 := 12) ?_
                  refine wp_i_ge jF_244_12 ⟨by omega, by omega⟩ ⟨by omega, by omega⟩ rfl (pc2 := 15) ?_ ?_
                  · intro h104
                    refine wp_il1 jF_244_38 rfl rfl (pc2 := 39) ?_
                    refine wp_ri jF_244_39 rfl ?_
                    exact ⟨(((0 + 1) + 1) + 1), rfl, ⟨by omega, by omega⟩, rfl, (by have e := m0_e (σ := σ); omega)⟩
                  · intro h104; exfalso; omega
                · intro h102
                  have n105 := mB_1 (x := σ.2.1 138 21) (by omega)
                  refine wp_inc (lv2 := [(0, .ref 117), (1, iV 0), (2, iV ((((0 + 1) + 1) + 1) + 1)), (3, iV ((((4 * 0) + 1) + 1) + 1))]) jF_244_29 rfl rfl rfl rfl (pc2 := 32) ?_
                  refine wp_inc (lv2 := [(0, .ref 117), (1, iV 0), (2, iV ((((0 + 1) + 1) + 1) + 1)), (3, iV (((((4 * 0) + 1) + 1) + 1) + 1))]) jF_244_32 rfl rfl rfl rfl (pc2 := 35) ?_
                  refine wp_go jF_244_35 ?_
                  refine wp_il1 jF_244_6 rfl rfl (pc2 := 7) ?_
                  refine wp_ic jF_244_7 rfl (pc2 := 8) ?_
                  refine wp_il1 jF_244_8 rfl rfl (pc2 := 9) ?_
                  refine wp_mul jF_244_9 rfl (pc2 := 10) ?_
                  refine wp_ic jF_244_10 rfl (pc2 := 11) ?_
                  refine wp_add jF_244_11 rfl (pc2 := 12) ?_
                  refine wp_i_ge jF_244_12 ⟨by omega, by omega⟩ ⟨by omega, by omega⟩ rfl (pc2 := 15) ?_ ?_
                  · intro h106
                    refine wp_il1 jF_244_38 rfl rfl (pc2 := 39) ?_
                    refine wp_ri jF_244_39 rfl ?_
                    exact ⟨((((0 + 1) + 1) + 1) + 1), rfl, ⟨by omega, by omega⟩, rfl, (by have e := m0_e (σ := σ); omega)⟩
                  · intro h106; exfalso; omega
