set_option maxHeartbeats 4000000 in
set_option maxRecDepth 20000 in
/-- X.sign -/
theorem m_94_r9 (σ : jM) (hg : GI σ) (other : Int) (hl_other : 0 ≤ other) (hu_other : other ≤ 1) (k : Int) (hl_k : (-2147483648) ≤ k) (hu_k : k ≤ 2147483647)  (fr lo : Nat) (hfr : 0 ≤ fr) (hlo : 0 ≤ lo) : WP 94 0 (lv_args 0 [.ref 9, iV other, iV k]) [] fr lo σ (fun v τ => ∃ z : Int, v = some (iV z) ∧ ((-2147483648) ≤ z ∧ z ≤ 2147483647) ∧ σ = τ) := by
  show WP 94 0 [(0, .ref 9), (1, iV other), (2, iV k)] [] _ _ _ _
  refine wp_il1 jF_94_0 rfl rfl (pc2 := 1) ?_
  refine wp_z_eq jF_94_1 ⟨by omega, by omega⟩ rfl (pc2 := 4) ?_ ?_
  · intro h1
    refine wp_al1 jF_94_11 rfl rfl (pc2 := 12) ?_
    refine wp_gr (b := 70) jF_94_12 kd9 (by decide) (c := 170) rfl rfl rfl (pc2 := 15) ?_
    refine wp_as1 (lv2 := [(0, .ref 9), (1, iV other), (2, iV k), (3, .ref 70)]) jF_94_15 rfl rfl rfl (pc2 := 16) ?_
    refine wp_il1 jF_94_16 rfl rfl (pc2 := 17) ?_
    refine wp_ic jF_94_17 rfl (pc2 := 18) ?_
    refine wp_i_ne jF_94_18 ⟨by omega, by omega⟩ (m_rgl rfl) rfl (pc2 := 21) ?_ ?_
    · intro h2
      refine wp_il1 jF_94_26 rfl rfl (pc2 := 27) ?_
      refine wp_z_lt jF_94_27 ⟨by omega, by omega⟩ rfl (pc2 := 30) ?_ ?_
      · intro h3
        refine wp_ic jF_94_47 rfl (pc2 := 48) ?_
        refine wp_ri jF_94_48 rfl ?_
        exact ⟨(-1), rfl, ⟨by omega, by omega⟩, rfl⟩
      · intro h3
        refine wp_il1 jF_94_30 rfl rfl (pc2 := 31) ?_
        refine wp_al1 jF_94_31 rfl rfl (pc2 := 32) ?_
        have b4 := GI.b hg 70 1 kd70 (lo := 0) (hi := 60) rfl
        refine wp_gi jF_94_32 kd70 (by decide) rfl rfl rfl (pc2 := 35) ?_
        refine wp_i_ge jF_94_35 ⟨by omega, by omega⟩ (m_rgb b4 rfl) rfl (pc2 := 38) ?_ ?_
        · intro h5
          refine wp_ic jF_94_47 rfl (pc2 := 48) ?_
          refine wp_ri jF_94_48 rfl ?_
          exact ⟨(-1), rfl, ⟨by omega, by omega⟩, rfl⟩
        · intro h5
          refine wp_al1 jF_94_38 rfl rfl (pc2 := 39) ?_
          refine wp_gr (b := 71) jF_94_39 kd70 (by decide) (c := 4) rfl rfl rfl (pc2 := 42) ?_
          refine wp_il1 jF_94_42 rfl rfl (pc2 := 43) ?_
          have b6 := GI.b hg 71 k.toNat kd71 (lo := 0) (hi := 255) rfl
          refine wp_iald (n := 60) (e := (σ.1 71 k.toNat)) jF_94_43 kd71 (by decide) rfl rfl (by omega) (by omega) rfl rfl (pc2 := 44) ?_
          refine wp_go jF_94_44 ?_
          refine wp_ri jF_94_48 rfl ?_
          exact ⟨(σ.1 71 k.toNat), rfl, ⟨by omega, by omega⟩, rfl⟩
    · intro h2
      refine wp_al1 jF_94_21 rfl rfl (pc2 := 22) ?_
      have b7 := GI.b hg 70 1 kd70 (lo := 0) (hi := 60) rfl
      refine wp_gi jF_94_22 kd70 (by decide) rfl rfl rfl (pc2 := 25) ?_
      refine wp_ri jF_94_25 rfl ?_
      exact ⟨(σ.1 70 1), rfl, ⟨by omega, by omega⟩, rfl⟩
  · intro h1
    refine wp_al1 jF_94_4 rfl rfl (pc2 := 5) ?_
    refine wp_gr (b := 75) jF_94_5 kd9 (by decide) (c := 175) rfl rfl rfl (pc2 := 8) ?_
    refine wp_go jF_94_8 ?_
    refine wp_as1 (lv2 := [(0, .ref 9), (1, iV other), (2, iV k), (3, .ref 75)]) jF_94_15 rfl rfl rfl (pc2 := 16) ?_
    refine wp_il1 jF_94_16 rfl rfl (pc2 := 17) ?_
    refine wp_ic jF_94_17 rfl (pc2 := 18) ?_
    refine wp_i_ne jF_94_18 ⟨by omega, by omega⟩ (m_rgl rfl) rfl (pc2 := 21) ?_ ?_
    · intro h8
      refine wp_il1 jF_94_26 rfl rfl (pc2 := 27) ?_
      refine wp_z_lt jF_94_27 ⟨by omega, by omega⟩ rfl (pc2 := 30) ?_ ?_
      · intro h9
        refine wp_ic jF_94_47 rfl (pc2 := 48) ?_
        refine wp_ri jF_94_48 rfl ?_
        exact ⟨(-1), rfl, ⟨by omega, by omega⟩, rfl⟩
      · intro h9
        refine wp_il1 jF_94_30 rfl rfl (pc2 := 31) ?_
        refine wp_al1 jF_94_31 rfl rfl (pc2 := 32) ?_
        have b10 := GI.b hg 75 1 kd75 (lo := 0) (hi := 60) rfl
        refine wp_gi jF_94_32 kd75 (by decide) rfl rfl rfl (pc2 := 35) ?_
        refine wp_i_ge jF_94_35 ⟨by omega, by omega⟩ (m_rgb b10 rfl) rfl (pc2 := 38) ?_ ?_
        · intro h11
          refine wp_ic jF_94_47 rfl (pc2 := 48) ?_
          refine wp_ri jF_94_48 rfl ?_
          exact ⟨(-1), rfl, ⟨by omega, by omega⟩, rfl⟩
        · intro h11
          refine wp_al1 jF_94_38 rfl rfl (pc2 := 39) ?_
          refine wp_gr (b := 76) jF_94_39 kd75 (by decide) (c := 4) rfl rfl rfl (pc2 := 42) ?_
          refine wp_il1 jF_94_42 rfl rfl (pc2 := 43) ?_
          have b12 := GI.b hg 76 k.toNat kd76 (lo := 0) (hi := 255) rfl
          refine wp_iald (n := 60) (e := (σ.1 76 k.toNat)) jF_94_43 kd76 (by decide) rfl rfl (by omega) (by omega) rfl rfl (pc2 := 44) ?_
          refine wp_go jF_94_44 ?_
          refine wp_ri jF_94_48 rfl ?_
          exact ⟨(σ.1 76 k.toNat), rfl, ⟨by omega, by omega⟩, rfl⟩
    · intro h8
      refine wp_al1 jF_94_21 rfl rfl (pc2 := 22) ?_
      have b13 := GI.b hg 75 1 kd75 (lo := 0) (hi := 60) rfl
      refine wp_gi jF_94_22 kd75 (by decide) rfl rfl rfl (pc2 := 25) ?_
      refine wp_ri jF_94_25 rfl ?_
      exact ⟨(σ.1 75 1), rfl, ⟨by omega, by omega⟩, rfl⟩
set_option maxHeartbeats 4000000 in
set_option maxRecDepth 20000 in
/-- X.size -/
theorem m_95_r9 (σ : jM) (hg : GI σ) (other : Int) (hl_other : 0 ≤ other) (hu_other : other ≤ 1) (what : Int) (hl_what : (-2147483648) ≤ what) (hu_what : what ≤ 2147483647) (hsp : SPK σ)  (fr lo : Nat) (hfr : 2 ≤ fr) (hlo : 45 ≤ lo) : WP 95 0 (lv_args 0 [.ref 9, iV other, iV what]) [] fr lo σ (fun v τ => ∃ z : Int, v = some (iV z) ∧ ((-2147483648) ≤ z ∧ z ≤ 2147483647) ∧ σ = τ) := by
  rcases hsp with ⟨hs1, hs2⟩ | ⟨hs1, hs2⟩
  · skip
    show WP 95 0 [(0, .ref 9), (1, iV other), (2, iV what)] [] _ _ _ _
    refine wp_il1 jF_95_0 rfl rfl (pc2 := 1) ?_
    refine wp_z_eq jF_95_1 ⟨by omega, by omega⟩ rfl (pc2 := 4) ?_ ?_
    · intro h1
      refine wp_al1 jF_95_11 rfl rfl (pc2 := 12) ?_
      refine wp_gr (b := 70) jF_95_12 kd9 (by decide) (c := 170) rfl rfl rfl (pc2 := 15) ?_
      refine wp_as1 (lv2 := [(0, .ref 9), (1, iV other), (2, iV what), (3, .ref 70)]) jF_95_15 rfl rfl rfl (pc2 := 16) ?_
      refine wp_il1 jF_95_16 rfl rfl (pc2 := 17) ?_
      rcases m_tsw what 0 4 with h2 | h2
      · refine wp_tswd (tgt := 98) jF_95_17 ⟨by omega, by omega⟩ h2 (by decide) ?_
        refine wp_ic jF_95_98 rfl (pc2 := 99) ?_
        refine wp_ri jF_95_99 rfl ?_
        exact ⟨(-1), rfl, ⟨by omega, by omega⟩, rfl⟩
      · have h2c : what = 0 ∨ what = 1 ∨ what = 2 ∨ what = 3 ∨ what = 4 := by omega
        rcases h2c with hh | hh | hh | hh | hh
        · refine wp_tswx (x := 0) (tgt := 52) jF_95_17 hh (by decide) ?_
          subst hh
          refine wp_al1 jF_95_52 rfl rfl (pc2 := 53) ?_
          have b3 := GI.b hg 70 2 kd70 (lo := (-2147483648)) (hi := 2147483647) rfl
          refine wp_gi jF_95_53 kd70 (by decide) rfl rfl rfl (pc2 := 56) ?_
          refine wp_ri jF_95_56 rfl ?_
          exact ⟨(σ.1 70 2), rfl, ⟨by omega, by omega⟩, rfl⟩
        · refine wp_tswx (x := 1) (tgt := 57) jF_95_17 hh (by decide) ?_
          subst hh
          refine wp_al1 jF_95_57 rfl rfl (pc2 := 58) ?_
          have b4 := GI.b hg 70 6 kd70 (lo := 0) (hi := 30) rfl
          refine wp_gi jF_95_58 kd70 (by decide) rfl rfl rfl (pc2 := 61) ?_
          refine wp_ri jF_95_61 rfl ?_
          exact ⟨(σ.1 70 6), rfl, ⟨by omega, by omega⟩, rfl⟩
        · refine wp_tswx (x := 2) (tgt := 62) jF_95_17 hh (by decide) ?_
          subst hh
          refine wp_al1 jF_95_62 rfl rfl (pc2 := 63) ?_
          refine wp_glA jF_95_63 kd70 (by decide) rfl rfl (pc2 := 66) ?_
          intro y5
          refine wp_cS (as := [.long y5]) (rest := []) (mx := 2) jF_95_66 rfl rfl rfl rfl (by omega) (by omega) rfl (pc2 := 69) ?_
          refine wp_use (m_96_r σ hg y5  _ _ (by omega) (by omega)) ?_
          rintro _ _ ⟨z8, rfl, h9, rfl⟩
          show WP 95 69 [(0, .ref 9), (1, iV other), (2, iV 2), (3, .ref 70)] [iV z8] _ _ _ _
          refine wp_ri jF_95_69 rfl ?_
          exact ⟨z8, rfl, ⟨by omega, by omega⟩, rfl⟩
        · refine wp_tswx (x := 3) (tgt := 70) jF_95_17 hh (by decide) ?_
          subst hh
          refine wp_al1 jF_95_70 rfl rfl (pc2 := 71) ?_
          refine wp_cV (as := []) (rest := []) (a := 70) (mx := 6) (ci := 4) jF_95_71 kd70 (by decide) rfl rfl rfl rfl rfl (by omega) (by omega) rfl (pc2 := 74) ?_
          refine wp_use (m_97_r70 σ hg   _ _ (by omega) (by omega)) ?_
          rintro _ _ ⟨z12, rfl, h13, rfl⟩
          show WP 95 74 [(0, .ref 9), (1, iV other), (2, iV 3), (3, .ref 70)] [iV z12] _ _ _ _
          refine wp_ri jF_95_74 rfl ?_
          exact ⟨z12, rfl, ⟨by omega, by omega⟩, rfl⟩
        · refine wp_tswx (x := 4) (tgt := 75) jF_95_17 hh (by decide) ?_
          subst hh
          refine wp_il1 jF_95_75 rfl rfl (pc2 := 76) ?_
          refine wp_z_eq jF_95_76 ⟨by omega, by omega⟩ rfl (pc2 := 79) ?_ ?_
          · intro h14
            refine wp_al1 jF_95_83 rfl rfl (pc2 := 84) ?_
            refine wp_gr jF_95_84 kd9 (by decide) (c := 2) rfl (m_fv2 hs1 rfl) rfl (pc2 := 87) ?_
            refine wp_al1 jF_95_87 rfl rfl (pc2 := 88) ?_
            refine wp_glA jF_95_88 kd70 (by decide) rfl rfl (pc2 := 91) ?_
            intro y15
            refine wp_cV (as := [.long y15]) (rest := []) (a := 20) (mx := 3) (ci := 8) jF_95_91 kd20 (by decide) rfl rfl rfl rfl rfl (by omega) (by omega) rfl (pc2 := 94) ?_
            refine wp_use (m_85_r20 σ hg y15  _ _ (by omega) (by omega)) ?_
            rintro _ _ ⟨z18, rfl, h19, rfl⟩
            show WP 95 94 [(0, .ref 9), (1, iV other), (2, iV 4), (3, .ref 70)] [iV z18] _ _ _ _
            refine wp_cS (as := [iV z18]) (rest := []) (mx := 1) jF_95_94 rfl rfl rfl rfl (by omega) (by omega) rfl (pc2 := 97) ?_
            show WP 98 0 [(0, iV z18)] [] _ _ _ _
            refine wp_il1 jF_98_0 rfl rfl (pc2 := 1) ?_
            refine wp_z_eq jF_98_1 (m_rgb h19 rfl) rfl (pc2 := 4) ?_ ?_
            · intro h20
              refine wp_ic jF_98_8 rfl (pc2 := 9) ?_
              refine wp_ri jF_98_9 rfl ?_
              show WP 95 97 [(0, .ref 9), (1, iV other), (2, iV 4), (3, .ref 70)] [iV 0] _ _ _ _
              refine wp_ri jF_95_97 rfl ?_
              exact ⟨0, rfl, ⟨by omega, by omega⟩, rfl⟩
            · intro h20
              refine wp_ic jF_98_4 rfl (pc2 := 5) ?_
              refine wp_go jF_98_5 ?_
              refine wp_ri jF_98_9 rfl ?_
              show WP 95 97 [(0, .ref 9), (1, iV other), (2, iV 4), (3, .ref 70)] [iV 1] _ _ _ _
              refine wp_ri jF_95_97 rfl ?_
              exact ⟨1, rfl, ⟨by omega, by omega⟩, rfl⟩
          · intro h14; exfalso; omega
    · intro h1
      refine wp_al1 jF_95_4 rfl rfl (pc2 := 5) ?_
      refine wp_gr (b := 75) jF_95_5 kd9 (by decide) (c := 175) rfl rfl rfl (pc2 := 8) ?_
      refine wp_go jF_95_8 ?_
      refine wp_as1 (lv2 := [(0, .ref 9), (1, iV other), (2, iV what), (3, .ref 75)]) jF_95_15 rfl rfl rfl (pc2 := 16) ?_
      refine wp_il1 jF_95_16 rfl rfl (pc2 := 17) ?_
      rcases m_tsw what 0 4 with h21 | h21
      · refine wp_tswd (tgt := 98) jF_95_17 ⟨by omega, by omega⟩ h21 (by decide) ?_
        refine wp_ic jF_95_98 rfl (pc2 := 99) ?_
        refine wp_ri jF_95_99 rfl ?_
        exact ⟨(-1), rfl, ⟨by omega, by omega⟩, rfl⟩
      · have h21c : what = 0 ∨ what = 1 ∨ what = 2 ∨ what = 3 ∨ what = 4 := by omega
        rcases h21c with hh | hh | hh | hh | hh
        · refine wp_tswx (x := 0) (tgt := 52) jF_95_17 hh (by decide) ?_
          subst hh
          refine wp_al1 jF_95_52 rfl rfl (pc2 := 53) ?_
          have b22 := GI.b hg 75 2 kd75 (lo := (-2147483648)) (hi := 2147483647) rfl
          refine wp_gi jF_95_53 kd75 (by decide) rfl rfl rfl (pc2 := 56) ?_
          refine wp_ri jF_95_56 rfl ?_
          exact ⟨(σ.1 75 2), rfl, ⟨by omega, by omega⟩, rfl⟩
        · refine wp_tswx (x := 1) (tgt := 57) jF_95_17 hh (by decide) ?_
          subst hh
          refine wp_al1 jF_95_57 rfl rfl (pc2 := 58) ?_
          have b23 := GI.b hg 75 6 kd75 (lo := 0) (hi := 30) rfl
          refine wp_gi jF_95_58 kd75 (by decide) rfl rfl rfl (pc2 := 61) ?_
          refine wp_ri jF_95_61 rfl ?_
          exact ⟨(σ.1 75 6), rfl, ⟨by omega, by omega⟩, rfl⟩
        · refine wp_tswx (x := 2) (tgt := 62) jF_95_17 hh (by decide) ?_
          subst hh
          refine wp_al1 jF_95_62 rfl rfl (pc2 := 63) ?_
          refine wp_glA jF_95_63 kd75 (by decide) rfl rfl (pc2 := 66) ?_
          intro y24
          refine wp_cS (as := [.long y24]) (rest := []) (mx := 2) jF_95_66 rfl rfl rfl rfl (by omega) (by omega) rfl (pc2 := 69) ?_
          refine wp_use (m_96_r σ hg y24  _ _ (by omega) (by omega)) ?_
          rintro _ _ ⟨z27, rfl, h28, rfl⟩
          show WP 95 69 [(0, .ref 9), (1, iV other), (2, iV 2), (3, .ref 75)] [iV z27] _ _ _ _
          refine wp_ri jF_95_69 rfl ?_
          exact ⟨z27, rfl, ⟨by omega, by omega⟩, rfl⟩
        · refine wp_tswx (x := 3) (tgt := 70) jF_95_17 hh (by decide) ?_
          subst hh
          refine wp_al1 jF_95_70 rfl rfl (pc2 := 71) ?_
          refine wp_cV (as := []) (rest := []) (a := 75) (mx := 6) (ci := 4) jF_95_71 kd75 (by decide) rfl rfl rfl rfl rfl (by omega) (by omega) rfl (pc2 := 74) ?_
          refine wp_use (m_97_r75 σ hg   _ _ (by omega) (by omega)) ?_
          rintro _ _ ⟨z31, rfl, h32, rfl⟩
          show WP 95 74 [(0, .ref 9), (1, iV other), (2, iV 3), (3, .ref 75)] [iV z31] _ _ _ _
          refine wp_ri jF_95_74 rfl ?_
          exact ⟨z31, rfl, ⟨by omega, by omega⟩, rfl⟩
        · refine wp_tswx (x := 4) (tgt := 75) jF_95_17 hh (by decide) ?_
          subst hh
          refine wp_il1 jF_95_75 rfl rfl (pc2 := 76) ?_
          refine wp_z_eq jF_95_76 ⟨by omega, by omega⟩ rfl (pc2 := 79) ?_ ?_
          · intro h33; exfalso; omega
          · intro h33
            refine wp_ic jF_95_79 rfl (pc2 := 80) ?_
            refine wp_go jF_95_80 ?_
            refine wp_ri jF_95_97 rfl ?_
            exact ⟨(-1), rfl, ⟨by omega, by omega⟩, rfl⟩
  · skip
    show WP 95 0 [(0, .ref 9), (1, iV other), (2, iV what)] [] _ _ _ _
    refine wp_il1 jF_95_0 rfl rfl (pc2 := 1) ?_
    refine wp_z_eq jF_95_1 ⟨by omega, by omega⟩ rfl (pc2 := 4) ?_ ?_
    · intro h34
      refine wp_al1 jF_95_11 rfl rfl (pc2 := 12) ?_
      refine wp_gr (b := 70) jF_95_12 kd9 (by decide) (c := 170) rfl rfl rfl (pc2 := 15) ?_
      refine wp_as1 (lv2 := [(0, .ref 9), (1, iV other), (2, iV what), (3, .ref 70)]) jF_95_15 rfl rfl rfl (pc2 := 16) ?_
      refine wp_il1 jF_95_16 rfl rfl (pc2 := 17) ?_
      rcases m_tsw what 0 4 with h35 | h35
      · refine wp_tswd (tgt := 98) jF_95_17 ⟨by omega, by omega⟩ h35 (by decide) ?_
        refine wp_ic jF_95_98 rfl (pc2 := 99) ?_
        refine wp_ri jF_95_99 rfl ?_
        exact ⟨(-1), rfl, ⟨by omega, by omega⟩, rfl⟩
      · have h35c : what = 0 ∨ what = 1 ∨ what = 2 ∨ what = 3 ∨ what = 4 := by omega
        rcases h35c with hh | hh | hh | hh | hh
        · refine wp_tswx (x := 0) (tgt := 52) jF_95_17 hh (by decide) ?_
          subst hh
          refine wp_al1 jF_95_52 rfl rfl (pc2 := 53) ?_
          have b36 := GI.b hg 70 2 kd70 (lo := (-2147483648)) (hi := 2147483647) rfl
          refine wp_gi jF_95_53 kd70 (by decide) rfl rfl rfl (pc2 := 56) ?_
          refine wp_ri jF_95_56 rfl ?_
          exact ⟨(σ.1 70 2), rfl, ⟨by omega, by omega⟩, rfl⟩
        · refine wp_tswx (x := 1) (tgt := 57) jF_95_17 hh (by decide) ?_
          subst hh
          refine wp_al1 jF_95_57 rfl rfl (pc2 := 58) ?_
          have b37 := GI.b hg 70 6 kd70 (lo := 0) (hi := 30) rfl
          refine wp_gi jF_95_58 kd70 (by decide) rfl rfl rfl (pc2 := 61) ?_
          refine wp_ri jF_95_61 rfl ?_
          exact ⟨(σ.1 70 6), rfl, ⟨by omega, by omega⟩, rfl⟩
        · refine wp_tswx (x := 2) (tgt := 62) jF_95_17 hh (by decide) ?_
          subst hh
          refine wp_al1 jF_95_62 rfl rfl (pc2 := 63) ?_
          refine wp_glA jF_95_63 kd70 (by decide) rfl rfl (pc2 := 66) ?_
          intro y38
          refine wp_cS (as := [.long y38]) (rest := []) (mx := 2) jF_95_66 rfl rfl rfl rfl (by omega) (by omega) rfl (pc2 := 69) ?_
          refine wp_use (m_96_r σ hg y38  _ _ (by omega) (by omega)) ?_
          rintro _ _ ⟨z41, rfl, h42, rfl⟩
          show WP 95 69 [(0, .ref 9), (1, iV other), (2, iV 2), (3, .ref 70)] [iV z41] _ _ _ _
          refine wp_ri jF_95_69 rfl ?_
          exact ⟨z41, rfl, ⟨by omega, by omega⟩, rfl⟩
        · refine wp_tswx (x := 3) (tgt := 70) jF_95_17 hh (by decide) ?_
          subst hh
          refine wp_al1 jF_95_70 rfl rfl (pc2 := 71) ?_
          refine wp_cV (as := []) (rest := []) (a := 70) (mx := 6) (ci := 4) jF_95_71 kd70 (by decide) rfl rfl rfl rfl rfl (by omega) (by omega) rfl (pc2 := 74) ?_
          refine wp_use (m_97_r70 σ hg   _ _ (by omega) (by omega)) ?_
          rintro _ _ ⟨z45, rfl, h46, rfl⟩
          show WP 95 74 [(0, .ref 9), (1, iV other), (2, iV 3), (3, .ref 70)] [iV z45] _ _ _ _
          refine wp_ri jF_95_74 rfl ?_
          exact ⟨z45, rfl, ⟨by omega, by omega⟩, rfl⟩
        · refine wp_tswx (x := 4) (tgt := 75) jF_95_17 hh (by decide) ?_
          subst hh
          refine wp_il1 jF_95_75 rfl rfl (pc2 := 76) ?_
          refine wp_z_eq jF_95_76 ⟨by omega, by omega⟩ rfl (pc2 := 79) ?_ ?_
          · intro h47
            refine wp_al1 jF_95_83 rfl rfl (pc2 := 84) ?_
            refine wp_gr jF_95_84 kd9 (by decide) (c := 2) rfl (m_fv2 hs1 rfl) rfl (pc2 := 87) ?_
            refine wp_al1 jF_95_87 rfl rfl (pc2 := 88) ?_
            refine wp_glA jF_95_88 kd70 (by decide) rfl rfl (pc2 := 91) ?_
            intro y48
            refine wp_cV (as := [.long y48]) (rest := []) (a := 45) (mx := 3) (ci := 8) jF_95_91 kd45 (by decide) rfl rfl rfl rfl rfl (by omega) (by omega) rfl (pc2 := 94) ?_
            refine wp_use (m_85_r45 σ hg y48  _ _ (by omega) (by omega)) ?_
            rintro _ _ ⟨z51, rfl, h52, rfl⟩
            show WP 95 94 [(0, .ref 9), (1, iV other), (2, iV 4), (3, .ref 70)] [iV z51] _ _ _ _
            refine wp_cS (as := [iV z51]) (rest := []) (mx := 1) jF_95_94 rfl rfl rfl rfl (by omega) (by omega) rfl (pc2 := 97) ?_
            show WP 98 0 [(0, iV z51)] [] _ _ _ _
            refine wp_il1 jF_98_0 rfl rfl (pc2 := 1) ?_
            refine wp_z_eq jF_98_1 (m_rgb h52 rfl) rfl (pc2 := 4) ?_ ?_
            · intro h53
              refine wp_ic jF_98_8 rfl (pc2 := 9) ?_
              refine wp_ri jF_98_9 rfl ?_
              show WP 95 97 [(0, .ref 9), (1, iV other), (2, iV 4), (3, .ref 70)] [iV 0] _ _ _ _
              refine wp_ri jF_95_97 rfl ?_
              exact ⟨0, rfl, ⟨by omega, by omega⟩, rfl⟩
            · intro h53
              refine wp_ic jF_98_4 rfl (pc2 := 5) ?_
              refine wp_go jF_98_5 ?_
              refine wp_ri jF_98_9 rfl ?_
              show WP 95 97 [(0, .ref 9), (1, iV other), (2, iV 4), (3, .ref 70)] [iV 1] _ _ _ _
              refine wp_ri jF_95_97 rfl ?_
              exact ⟨1, rfl, ⟨by omega, by omega⟩, rfl⟩
          · intro h47; exfalso; omega
    · intro h34
      refine wp_al1 jF_95_4 rfl rfl (pc2 := 5) ?_
      refine wp_gr (b := 75) jF_95_5 kd9 (by decide) (c := 175) rfl rfl rfl (pc2 := 8) ?_
      refine wp_go jF_95_8 ?_
      refine wp_as1 (lv2 := [(0, .ref 9), (1, iV other), (2, iV what), (3, .ref 75)]) jF_95_15 rfl rfl rfl (pc2 := 16) ?_
      refine wp_il1 jF_95_16 rfl rfl (pc2 := 17) ?_
      rcases m_tsw what 0 4 with h54 | h54
      · refine wp_tswd (tgt := 98) jF_95_17 ⟨by omega, by omega⟩ h54 (by decide) ?_
        refine wp_ic jF_95_98 rfl (pc2 := 99) ?_
        refine wp_ri jF_95_99 rfl ?_
        exact ⟨(-1), rfl, ⟨by omega, by omega⟩, rfl⟩
      · have h54c : what = 0 ∨ what = 1 ∨ what = 2 ∨ what = 3 ∨ what = 4 := by omega
        rcases h54c with hh | hh | hh | hh | hh
        · refine wp_tswx (x := 0) (tgt := 52) jF_95_17 hh (by decide) ?_
          subst hh
          refine wp_al1 jF_95_52 rfl rfl (pc2 := 53) ?_
          have b55 := GI.b hg 75 2 kd75 (lo := (-2147483648)) (hi := 2147483647) rfl
          refine wp_gi jF_95_53 kd75 (by decide) rfl rfl rfl (pc2 := 56) ?_
          refine wp_ri jF_95_56 rfl ?_
          exact ⟨(σ.1 75 2), rfl, ⟨by omega, by omega⟩, rfl⟩
        · refine wp_tswx (x := 1) (tgt := 57) jF_95_17 hh (by decide) ?_
          subst hh
          refine wp_al1 jF_95_57 rfl rfl (pc2 := 58) ?_
          have b56 := GI.b hg 75 6 kd75 (lo := 0) (hi := 30) rfl
          refine wp_gi jF_95_58 kd75 (by decide) rfl rfl rfl (pc2 := 61) ?_
          refine wp_ri jF_95_61 rfl ?_
          exact ⟨(σ.1 75 6), rfl, ⟨by omega, by omega⟩, rfl⟩
        · refine wp_tswx (x := 2) (tgt := 62) jF_95_17 hh (by decide) ?_
          subst hh
          refine wp_al1 jF_95_62 rfl rfl (pc2 := 63) ?_
          refine wp_glA jF_95_63 kd75 (by decide) rfl rfl (pc2 := 66) ?_
          intro y57
          refine wp_cS (as := [.long y57]) (rest := []) (mx := 2) jF_95_66 rfl rfl rfl rfl (by omega) (by omega) rfl (pc2 := 69) ?_
          refine wp_use (m_96_r σ hg y57  _ _ (by omega) (by omega)) ?_
          rintro _ _ ⟨z60, rfl, h61, rfl⟩
          show WP 95 69 [(0, .ref 9), (1, iV other), (2, iV 2), (3, .ref 75)] [iV z60] _ _ _ _
          refine wp_ri jF_95_69 rfl ?_
          exact ⟨z60, rfl, ⟨by omega, by omega⟩, rfl⟩
        · refine wp_tswx (x := 3) (tgt := 70) jF_95_17 hh (by decide) ?_
          subst hh
          refine wp_al1 jF_95_70 rfl rfl (pc2 := 71) ?_
          refine wp_cV (as := []) (rest := []) (a := 75) (mx := 6) (ci := 4) jF_95_71 kd75 (by decide) rfl rfl rfl rfl rfl (by omega) (by omega) rfl (pc2 := 74) ?_
          refine wp_use (m_97_r75 σ hg   _ _ (by omega) (by omega)) ?_
          rintro _ _ ⟨z64, rfl, h65, rfl⟩
          show WP 95 74 [(0, .ref 9), (1, iV other), (2, iV 3), (3, .ref 75)] [iV z64] _ _ _ _
          refine wp_ri jF_95_74 rfl ?_
          exact ⟨z64, rfl, ⟨by omega, by omega⟩, rfl⟩
        · refine wp_tswx (x := 4) (tgt := 75) jF_95_17 hh (by decide) ?_
          subst hh
          refine wp_il1 jF_95_75 rfl rfl (pc2 := 76) ?_
          refine wp_z_eq jF_95_76 ⟨by omega, by omega⟩ rfl (pc2 := 79) ?_ ?_
          · intro h66; exfalso; omega
          · intro h66
            refine wp_ic jF_95_79 rfl (pc2 := 80) ?_
            refine wp_go jF_95_80 ?_
            refine wp_ri jF_95_97 rfl ?_
            exact ⟨(-1), rfl, ⟨by omega, by omega⟩, rfl⟩
set_option maxHeartbeats 4000000 in
set_option maxRecDepth 20000 in
/-- X.forbids -/
theorem m_99_r9 (σ : jM) (hg : GI σ) (other : Int) (hl_other : 0 ≤ other) (hu_other : other ≤ 1) (nb : Int) (hl_nb : (-2147483648) ≤ nb) (hu_nb : nb ≤ 2147483647) (hsp : SPK σ)  (fr lo : Nat) (hfr : 1 ≤ fr) (hlo : 22 ≤ lo) : WP 99 0 (lv_args 0 [.ref 9, iV other, iV nb]) [] fr lo σ (fun v τ => ∃ z : Int, v = some (iV z) ∧ ((-2147483648) ≤ z ∧ z ≤ 2147483647) ∧ σ = τ) := by
  rcases hsp with ⟨hs1, hs2⟩ | ⟨hs1, hs2⟩
  · skip
    show WP 99 0 [(0, .ref 9), (1, iV other), (2, iV nb)] [] _ _ _ _
    refine wp_al1 jF_99_0 rfl rfl (pc2 := 1) ?_
    refine wp_gr jF_99_1 kd9 (by decide) (c := 2) rfl (m_fv2 hs1 rfl) rfl (pc2 := 4) ?_
    refine wp_il1 jF_99_4 rfl rfl (pc2 := 5) ?_
    refine wp_cV (as := [iV nb]) (rest := []) (a := 20) (mx := 2) (ci := 8) jF_99_5 kd20 (by decide) rfl rfl rfl rfl rfl (by omega) (by omega) rfl (pc2 := 8) ?_
    refine wp_use (m_100_r20 σ hg nb (by omega) (by omega)  _ _ (by omega) (by omega)) ?_
    rintro _ _ ⟨z3, rfl, h4, rfl⟩
    show WP 99 8 [(0, .ref 9), (1, iV other), (2, iV nb)] [iV z3] _ _ _ _
    refine wp_z_ne jF_99_8 (m_rgb h4 rfl) rfl (pc2 := 11) ?_ ?_
    · intro h5
      refine wp_il1 jF_99_13 rfl rfl (pc2 := 14) ?_
      refine wp_z_eq jF_99_14 ⟨by omega, by omega⟩ rfl (pc2 := 17) ?_ ?_
      · intro h6
        refine wp_al1 jF_99_24 rfl rfl (pc2 := 25) ?_
        refine wp_gr (b := 70) jF_99_25 kd9 (by decide) (c := 170) rfl rfl rfl (pc2 := 28) ?_
        refine wp_as1 (lv2 := [(0, .ref 9), (1, iV other), (2, iV nb), (3, .ref 70)]) jF_99_28 rfl rfl rfl (pc2 := 29) ?_
        refine wp_al1 jF_99_29 rfl rfl (pc2 := 30) ?_
        refine wp_glA jF_99_30 kd70 (by decide) rfl rfl (pc2 := 33) ?_
        intro y7
        refine wp_il1 jF_99_33 rfl rfl (pc2 := 34) ?_
        refine wp_cS (as := [.long y7, iV nb]) (rest := []) (mx := 3) jF_99_34 rfl rfl rfl rfl (by omega) (by omega) rfl (pc2 := 37) ?_
        show WP 101 0 [(0, .long y7), (2, iV nb)] [] _ _ _ _
        refine wp_ll1 jF_101_0 rfl rfl (pc2 := 1) ?_
        refine wp_il1 jF_101_1 rfl rfl (pc2 := 2) ?_
        refine wp_lng (pc2 := 3) jF_101_2 rfl rfl ?_
        intro y8
        refine wp_lc jF_101_3 rfl (pc2 := 4) ?_
        refine wp_lng (pc2 := 5) jF_101_4 rfl rfl ?_
        intro y9
        refine wp_lc jF_101_5 rfl (pc2 := 6) ?_
        refine wp_anyL (pc2 := 7) jF_101_6 rfl rfl ?_
        intro z10 h11
        refine wp_z_eq jF_101_7 (m_rgb h11 rfl) rfl (pc2 := 10) ?_ ?_
        · intro h12
          refine wp_ic jF_101_14 rfl (pc2 := 15) ?_
          refine wp_ri jF_101_15 rfl ?_
          show WP 99 37 [(0, .ref 9), (1, iV other), (2, iV nb), (3, .ref 70)] [iV 0] _ _ _ _
          refine wp_cS (as := [iV 0]) (rest := []) (mx := 1) jF_99_37 rfl rfl rfl rfl (by omega) (by omega) rfl (pc2 := 40) ?_
          show WP 98 0 [(0, iV 0)] [] _ _ _ _
          refine wp_il1 jF_98_0 rfl rfl (pc2 := 1) ?_
          refine wp_z_eq jF_98_1 (m_rgl rfl) rfl (pc2 := 4) ?_ ?_
          · intro h13
            refine wp_ic jF_98_8 rfl (pc2 := 9) ?_
            refine wp_ri jF_98_9 rfl ?_
            show WP 99 40 [(0, .ref 9), (1, iV other), (2, iV nb), (3, .ref 70)] [iV 0] _ _ _ _
            refine wp_ri jF_99_40 rfl ?_
            exact ⟨0, rfl, ⟨by omega, by omega⟩, rfl⟩
          · intro h13; exfalso; omega
        · intro h12
          refine wp_ic jF_101_10 rfl (pc2 := 11) ?_
          refine wp_go jF_101_11 ?_
          refine wp_ri jF_101_15 rfl ?_
          show WP 99 37 [(0, .ref 9), (1, iV other), (2, iV nb), (3, .ref 70)] [iV 1] _ _ _ _
          refine wp_cS (as := [iV 1]) (rest := []) (mx := 1) jF_99_37 rfl rfl rfl rfl (by omega) (by omega) rfl (pc2 := 40) ?_
          show WP 98 0 [(0, iV 1)] [] _ _ _ _
          refine wp_il1 jF_98_0 rfl rfl (pc2 := 1) ?_
          refine wp_z_eq jF_98_1 (m_rgl rfl) rfl (pc2 := 4) ?_ ?_
          · intro h14; exfalso; omega
          · intro h14
            refine wp_ic jF_98_4 rfl (pc2 := 5) ?_
            refine wp_go jF_98_5 ?_
            refine wp_ri jF_98_9 rfl ?_
            show WP 99 40 [(0, .ref 9), (1, iV other), (2, iV nb), (3, .ref 70)] [iV 1] _ _ _ _
            refine wp_ri jF_99_40 rfl ?_
            exact ⟨1, rfl, ⟨by omega, by omega⟩, rfl⟩
      · intro h6
        refine wp_al1 jF_99_17 rfl rfl (pc2 := 18) ?_
        refine wp_gr (b := 75) jF_99_18 kd9 (by decide) (c := 175) rfl rfl rfl (pc2 := 21) ?_
        refine wp_go jF_99_21 ?_
        refine wp_as1 (lv2 := [(0, .ref 9), (1, iV other), (2, iV nb), (3, .ref 75)]) jF_99_28 rfl rfl rfl (pc2 := 29) ?_
        refine wp_al1 jF_99_29 rfl rfl (pc2 := 30) ?_
        refine wp_glA jF_99_30 kd75 (by decide) rfl rfl (pc2 := 33) ?_
        intro y15
        refine wp_il1 jF_99_33 rfl rfl (pc2 := 34) ?_
        refine wp_cS (as := [.long y15, iV nb]) (rest := []) (mx := 3) jF_99_34 rfl rfl rfl rfl (by omega) (by omega) rfl (pc2 := 37) ?_
        show WP 101 0 [(0, .long y15), (2, iV nb)] [] _ _ _ _
        refine wp_ll1 jF_101_0 rfl rfl (pc2 := 1) ?_
        refine wp_il1 jF_101_1 rfl rfl (pc2 := 2) ?_
        refine wp_lng (pc2 := 3) jF_101_2 rfl rfl ?_
        intro y16
        refine wp_lc jF_101_3 rfl (pc2 := 4) ?_
        refine wp_lng (pc2 := 5) jF_101_4 rfl rfl ?_
        intro y17
        refine wp_lc jF_101_5 rfl (pc2 := 6) ?_
        refine wp_anyL (pc2 := 7) jF_101_6 rfl rfl ?_
        intro z18 h19
        refine wp_z_eq jF_101_7 (m_rgb h19 rfl) rfl (pc2 := 10) ?_ ?_
        · intro h20
          refine wp_ic jF_101_14 rfl (pc2 := 15) ?_
          refine wp_ri jF_101_15 rfl ?_
          show WP 99 37 [(0, .ref 9), (1, iV other), (2, iV nb), (3, .ref 75)] [iV 0] _ _ _ _
          refine wp_cS (as := [iV 0]) (rest := []) (mx := 1) jF_99_37 rfl rfl rfl rfl (by omega) (by omega) rfl (pc2 := 40) ?_
          show WP 98 0 [(0, iV 0)] [] _ _ _ _
          refine wp_il1 jF_98_0 rfl rfl (pc2 := 1) ?_
          refine wp_z_eq jF_98_1 (m_rgl rfl) rfl (pc2 := 4) ?_ ?_
          · intro h21
            refine wp_ic jF_98_8 rfl (pc2 := 9) ?_
            refine wp_ri jF_98_9 rfl ?_
            show WP 99 40 [(0, .ref 9), (1, iV other), (2, iV nb), (3, .ref 75)] [iV 0] _ _ _ _
            refine wp_ri jF_99_40 rfl ?_
            exact ⟨0, rfl, ⟨by omega, by omega⟩, rfl⟩
          · intro h21; exfalso; omega
        · intro h20
          refine wp_ic jF_101_10 rfl (pc2 := 11) ?_
          refine wp_go jF_101_11 ?_
          refine wp_ri jF_101_15 rfl ?_
          show WP 99 37 [(0, .ref 9), (1, iV other), (2, iV nb), (3, .ref 75)] [iV 1] _ _ _ _
          refine wp_cS (as := [iV 1]) (rest := []) (mx := 1) jF_99_37 rfl rfl rfl rfl (by omega) (by omega) rfl (pc2 := 40) ?_
          show WP 98 0 [(0, iV 1)] [] _ _ _ _
          refine wp_il1 jF_98_0 rfl rfl (pc2 := 1) ?_
          refine wp_z_eq jF_98_1 (m_rgl rfl) rfl (pc2 := 4) ?_ ?_
          · intro h22; exfalso; omega
          · intro h22
            refine wp_ic jF_98_4 rfl (pc2 := 5) ?_
            refine wp_go jF_98_5 ?_
            refine wp_ri jF_98_9 rfl ?_
            show WP 99 40 [(0, .ref 9), (1, iV other), (2, iV nb), (3, .ref 75)] [iV 1] _ _ _ _
            refine wp_ri jF_99_40 rfl ?_
            exact ⟨1, rfl, ⟨by omega, by omega⟩, rfl⟩
    · intro h5
      refine wp_ic jF_99_11 rfl (pc2 := 12) ?_
      refine wp_ri jF_99_12 rfl ?_
      exact ⟨(-1), rfl, ⟨by omega, by omega⟩, rfl⟩
  · skip
    show WP 99 0 [(0, .ref 9), (1, iV other), (2, iV nb)] [] _ _ _ _
    refine wp_al1 jF_99_0 rfl rfl (pc2 := 1) ?_
    refine wp_gr jF_99_1 kd9 (by decide) (c := 2) rfl (m_fv2 hs1 rfl) rfl (pc2 := 4) ?_
    refine wp_il1 jF_99_4 rfl rfl (pc2 := 5) ?_
    refine wp_cV (as := [iV nb]) (rest := []) (a := 45) (mx := 2) (ci := 8) jF_99_5 kd45 (by decide) rfl rfl rfl rfl rfl (by omega) (by omega) rfl (pc2 := 8) ?_
    refine wp_use (m_100_r45 σ hg nb (by omega) (by omega)  _ _ (by omega) (by omega)) ?_
    rintro _ _ ⟨z25, rfl, h26, rfl⟩
    show WP 99 8 [(0, .ref 9), (1, iV other), (2, iV nb)] [iV z25] _ _ _ _
    refine wp_z_ne jF_99_8 (m_rgb h26 rfl) rfl (pc2 := 11) ?_ ?_
    · intro h27
      refine wp_il1 jF_99_13 rfl rfl (pc2 := 14) ?_
      refine wp_z_eq jF_99_14 ⟨by omega, by omega⟩ rfl (pc2 := 17) ?_ ?_
      · intro h28
        refine wp_al1 jF_99_24 rfl rfl (pc2 := 25) ?_
        refine wp_gr (b := 70) jF_99_25 kd9 (by decide) (c := 170) rfl rfl rfl (pc2 := 28) ?_
        refine wp_as1 (lv2 := [(0, .ref 9), (1, iV other), (2, iV nb), (3, .ref 70)]) jF_99_28 rfl rfl rfl (pc2 := 29) ?_
        refine wp_al1 jF_99_29 rfl rfl (pc2 := 30) ?_
        refine wp_glA jF_99_30 kd70 (by decide) rfl rfl (pc2 := 33) ?_
        intro y29
        refine wp_il1 jF_99_33 rfl rfl (pc2 := 34) ?_
        refine wp_cS (as := [.long y29, iV nb]) (rest := []) (mx := 3) jF_99_34 rfl rfl rfl rfl (by omega) (by omega) rfl (pc2 := 37) ?_
        show WP 101 0 [(0, .long y29), (2, iV nb)] [] _ _ _ _
        refine wp_ll1 jF_101_0 rfl rfl (pc2 := 1) ?_
        refine wp_il1 jF_101_1 rfl rfl (pc2 := 2) ?_
        refine wp_lng (pc2 := 3) jF_101_2 rfl rfl ?_
        intro y30
        refine wp_lc jF_101_3 rfl (pc2 := 4) ?_
        refine wp_lng (pc2 := 5) jF_101_4 rfl rfl ?_
        intro y31
        refine wp_lc jF_101_5 rfl (pc2 := 6) ?_
        refine wp_anyL (pc2 := 7) jF_101_6 rfl rfl ?_
        intro z32 h33
        refine wp_z_eq jF_101_7 (m_rgb h33 rfl) rfl (pc2 := 10) ?_ ?_
        · intro h34
          refine wp_ic jF_101_14 rfl (pc2 := 15) ?_
          refine wp_ri jF_101_15 rfl ?_
          show WP 99 37 [(0, .ref 9), (1, iV other), (2, iV nb), (3, .ref 70)] [iV 0] _ _ _ _
          refine wp_cS (as := [iV 0]) (rest := []) (mx := 1) jF_99_37 rfl rfl rfl rfl (by omega) (by omega) rfl (pc2 := 40) ?_
          show WP 98 0 [(0, iV 0)] [] _ _ _ _
          refine wp_il1 jF_98_0 rfl rfl (pc2 := 1) ?_
          refine wp_z_eq jF_98_1 (m_rgl rfl) rfl (pc2 := 4) ?_ ?_
          · intro h35
            refine wp_ic jF_98_8 rfl (pc2 := 9) ?_
            refine wp_ri jF_98_9 rfl ?_
            show WP 99 40 [(0, .ref 9), (1, iV other), (2, iV nb), (3, .ref 70)] [iV 0] _ _ _ _
            refine wp_ri jF_99_40 rfl ?_
            exact ⟨0, rfl, ⟨by omega, by omega⟩, rfl⟩
          · intro h35; exfalso; omega
        · intro h34
          refine wp_ic jF_101_10 rfl (pc2 := 11) ?_
          refine wp_go jF_101_11 ?_
          refine wp_ri jF_101_15 rfl ?_
          show WP 99 37 [(0, .ref 9), (1, iV other), (2, iV nb), (3, .ref 70)] [iV 1] _ _ _ _
          refine wp_cS (as := [iV 1]) (rest := []) (mx := 1) jF_99_37 rfl rfl rfl rfl (by omega) (by omega) rfl (pc2 := 40) ?_
          show WP 98 0 [(0, iV 1)] [] _ _ _ _
          refine wp_il1 jF_98_0 rfl rfl (pc2 := 1) ?_
          refine wp_z_eq jF_98_1 (m_rgl rfl) rfl (pc2 := 4) ?_ ?_
          · intro h36; exfalso; omega
          · intro h36
            refine wp_ic jF_98_4 rfl (pc2 := 5) ?_
            refine wp_go jF_98_5 ?_
            refine wp_ri jF_98_9 rfl ?_
            show WP 99 40 [(0, .ref 9), (1, iV other), (2, iV nb), (3, .ref 70)] [iV 1] _ _ _ _
            refine wp_ri jF_99_40 rfl ?_
            exact ⟨1, rfl, ⟨by omega, by omega⟩, rfl⟩
      · intro h28
        refine wp_al1 jF_99_17 rfl rfl (pc2 := 18) ?_
        refine wp_gr (b := 75) jF_99_18 kd9 (by decide) (c := 175) rfl rfl rfl (pc2 := 21) ?_
        refine wp_go jF_99_21 ?_
        refine wp_as1 (lv2 := [(0, .ref 9), (1, iV other), (2, iV nb), (3, .ref 75)]) jF_99_28 rfl rfl rfl (pc2 := 29) ?_
        refine wp_al1 jF_99_29 rfl rfl (pc2 := 30) ?_
        refine wp_glA jF_99_30 kd75 (by decide) rfl rfl (pc2 := 33) ?_
        intro y37
        refine wp_il1 jF_99_33 rfl rfl (pc2 := 34) ?_
        refine wp_cS (as := [.long y37, iV nb]) (rest := []) (mx := 3) jF_99_34 rfl rfl rfl rfl (by omega) (by omega) rfl (pc2 := 37) ?_
        show WP 101 0 [(0, .long y37), (2, iV nb)] [] _ _ _ _
        refine wp_ll1 jF_101_0 rfl rfl (pc2 := 1) ?_
        refine wp_il1 jF_101_1 rfl rfl (pc2 := 2) ?_
        refine wp_lng (pc2 := 3) jF_101_2 rfl rfl ?_
        intro y38
        refine wp_lc jF_101_3 rfl (pc2 := 4) ?_
        refine wp_lng (pc2 := 5) jF_101_4 rfl rfl ?_
        intro y39
        refine wp_lc jF_101_5 rfl (pc2 := 6) ?_
        refine wp_anyL (pc2 := 7) jF_101_6 rfl rfl ?_
        intro z40 h41
        refine wp_z_eq jF_101_7 (m_rgb h41 rfl) rfl (pc2 := 10) ?_ ?_
        · intro h42
          refine wp_ic jF_101_14 rfl (pc2 := 15) ?_
          refine wp_ri jF_101_15 rfl ?_
          show WP 99 37 [(0, .ref 9), (1, iV other), (2, iV nb), (3, .ref 75)] [iV 0] _ _ _ _
          refine wp_cS (as := [iV 0]) (rest := []) (mx := 1) jF_99_37 rfl rfl rfl rfl (by omega) (by omega) rfl (pc2 := 40) ?_
          show WP 98 0 [(0, iV 0)] [] _ _ _ _
          refine wp_il1 jF_98_0 rfl rfl (pc2 := 1) ?_
          refine wp_z_eq jF_98_1 (m_rgl rfl) rfl (pc2 := 4) ?_ ?_
          · intro h43
            refine wp_ic jF_98_8 rfl (pc2 := 9) ?_
            refine wp_ri jF_98_9 rfl ?_
            show WP 99 40 [(0, .ref 9), (1, iV other), (2, iV nb), (3, .ref 75)] [iV 0] _ _ _ _
            refine wp_ri jF_99_40 rfl ?_
            exact ⟨0, rfl, ⟨by omega, by omega⟩, rfl⟩
          · intro h43; exfalso; omega
        · intro h42
          refine wp_ic jF_101_10 rfl (pc2 := 11) ?_
          refine wp_go jF_101_11 ?_
          refine wp_ri jF_101_15 rfl ?_
          show WP 99 37 [(0, .ref 9), (1, iV other), (2, iV nb), (3, .ref 75)] [iV 1] _ _ _ _
          refine wp_cS (as := [iV 1]) (rest := []) (mx := 1) jF_99_37 rfl rfl rfl rfl (by omega) (by omega) rfl (pc2 := 40) ?_
          show WP 98 0 [(0, iV 1)] [] _ _ _ _
          refine wp_il1 jF_98_0 rfl rfl (pc2 := 1) ?_
          refine wp_z_eq jF_98_1 (m_rgl rfl) rfl (pc2 := 4) ?_ ?_
          · intro h44; exfalso; omega
          · intro h44
            refine wp_ic jF_98_4 rfl (pc2 := 5) ?_
            refine wp_go jF_98_5 ?_
            refine wp_ri jF_98_9 rfl ?_
            show WP 99 40 [(0, .ref 9), (1, iV other), (2, iV nb), (3, .ref 75)] [iV 1] _ _ _ _
            refine wp_ri jF_99_40 rfl ?_
            exact ⟨1, rfl, ⟨by omega, by omega⟩, rfl⟩
    · intro h27
      refine wp_ic jF_99_11 rfl (pc2 := 12) ?_
      refine wp_ri jF_99_12 rfl ?_
      exact ⟨(-1), rfl, ⟨by omega, by omega⟩, rfl⟩
set_option maxHeartbeats 4000000 in
set_option maxRecDepth 20000 in
/-- X.borne -/
theorem m_102_r9 (σ : jM) (hg : GI σ) (nb : Int) (hl_nb : (-2147483648) ≤ nb) (hu_nb : nb ≤ 2147483647) (k : Int) (hl_k : (-2147483648) ≤ k) (hu_k : k ≤ 2147483647) (hsp : SPK σ)  (fr lo : Nat) (hfr : 2 ≤ fr) (hlo : 46 ≤ lo) : WP 102 0 (lv_args 0 [.ref 9, iV nb, iV k]) [] fr lo σ (fun v τ => ∃ z : Int, v = some (iV z) ∧ ((-2147483648) ≤ z ∧ z ≤ 2147483647) ∧ σ = τ) := by
  rcases hsp with ⟨hs1, hs2⟩ | ⟨hs1, hs2⟩
  · skip
    show WP 102 0 [(0, .ref 9), (1, iV nb), (2, iV k)] [] _ _ _ _
    refine wp_al1 jF_102_0 rfl rfl (pc2 := 1) ?_
    refine wp_gr jF_102_1 kd9 (by decide) (c := 2) rfl (m_fv2 hs1 rfl) rfl (pc2 := 4) ?_
    refine wp_il1 jF_102_4 rfl rfl (pc2 := 5) ?_
    refine wp_cV (as := [iV nb]) (rest := []) (a := 20) (mx := 2) (ci := 8) jF_102_5 kd20 (by decide) rfl rfl rfl rfl rfl (by omega) (by omega) rfl (pc2 := 8) ?_
    refine wp_use (m_100_r20 σ hg nb (by omega) (by omega)  _ _ (by omega) (by omega)) ?_
    rintro _ _ ⟨z3, rfl, h4, rfl⟩
    show WP 102 8 [(0, .ref 9), (1, iV nb), (2, iV k)] [iV z3] _ _ _ _
    refine wp_z_eq jF_102_8 (m_rgb h4 rfl) rfl (pc2 := 11) ?_ ?_
    · intro h5
      refine wp_ic jF_102_23 rfl (pc2 := 24) ?_
      refine wp_ri jF_102_24 rfl ?_
      exact ⟨(-1), rfl, ⟨by omega, by omega⟩, rfl⟩
    · intro h5
      refine wp_al1 jF_102_11 rfl rfl (pc2 := 12) ?_
      refine wp_gr (b := 70) jF_102_12 kd9 (by decide) (c := 170) rfl rfl rfl (pc2 := 15) ?_
      refine wp_il1 jF_102_15 rfl rfl (pc2 := 16) ?_
      refine wp_il1 jF_102_16 rfl rfl (pc2 := 17) ?_
      refine wp_cV (as := [iV nb, iV k]) (rest := []) (a := 70) (mx := 5) (ci := 4) jF_102_17 kd70 (by decide) rfl rfl rfl rfl rfl (by omega) (by omega) rfl (pc2 := 20) ?_
      refine wp_use (m_103_r70 σ hg nb (by omega) (by omega) k (by omega) (by omega)  _ _ (by omega) (by omega)) ?_
      rintro _ _ ⟨z8, rfl, h9, rfl⟩
      show WP 102 20 [(0, .ref 9), (1, iV nb), (2, iV k)] [iV z8] _ _ _ _
      refine wp_go jF_102_20 ?_
      refine wp_ri jF_102_24 rfl ?_
      exact ⟨z8, rfl, ⟨by omega, by omega⟩, rfl⟩
  · skip
    show WP 102 0 [(0, .ref 9), (1, iV nb), (2, iV k)] [] _ _ _ _
    refine wp_al1 jF_102_0 rfl rfl (pc2 := 1) ?_
    refine wp_gr jF_102_1 kd9 (by decide) (c := 2) rfl (m_fv2 hs1 rfl) rfl (pc2 := 4) ?_
    refine wp_il1 jF_102_4 rfl rfl (pc2 := 5) ?_
    refine wp_cV (as := [iV nb]) (rest := []) (a := 45) (mx := 2) (ci := 8) jF_102_5 kd45 (by decide) rfl rfl rfl rfl rfl (by omega) (by omega) rfl (pc2 := 8) ?_
    refine wp_use (m_100_r45 σ hg nb (by omega) (by omega)  _ _ (by omega) (by omega)) ?_
    rintro _ _ ⟨z12, rfl, h13, rfl⟩
    show WP 102 8 [(0, .ref 9), (1, iV nb), (2, iV k)] [iV z12] _ _ _ _
    refine wp_z_eq jF_102_8 (m_rgb h13 rfl) rfl (pc2 := 11) ?_ ?_
    · intro h14
      refine wp_ic jF_102_23 rfl (pc2 := 24) ?_
      refine wp_ri jF_102_24 rfl ?_
      exact ⟨(-1), rfl, ⟨by omega, by omega⟩, rfl⟩
    · intro h14
      refine wp_al1 jF_102_11 rfl rfl (pc2 := 12) ?_
      refine wp_gr (b := 70) jF_102_12 kd9 (by decide) (c := 170) rfl rfl rfl (pc2 := 15) ?_
      refine wp_il1 jF_102_15 rfl rfl (pc2 := 16) ?_
      refine wp_il1 jF_102_16 rfl rfl (pc2 := 17) ?_
      refine wp_cV (as := [iV nb, iV k]) (rest := []) (a := 70) (mx := 5) (ci := 4) jF_102_17 kd70 (by decide) rfl rfl rfl rfl rfl (by omega) (by omega) rfl (pc2 := 20) ?_
      refine wp_use (m_103_r70 σ hg nb (by omega) (by omega) k (by omega) (by omega)  _ _ (by omega) (by omega)) ?_
      rintro _ _ ⟨z17, rfl, h18, rfl⟩
      show WP 102 20 [(0, .ref 9), (1, iV nb), (2, iV k)] [iV z17] _ _ _ _
      refine wp_go jF_102_20 ?_
      refine wp_ri jF_102_24 rfl ?_
      exact ⟨z17, rfl, ⟨by omega, by omega⟩, rfl⟩
