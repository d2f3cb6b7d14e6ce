set_option maxHeartbeats 8000000 in
set_option maxRecDepth 100000 in
theorem pm_has (a1 : Int32) : PM 90 265 [.int a1] := by
  have ub_a1 := Int32.toInt_lt a1
  have lb_a1 := Int32.le_toInt a1
  rcases j_ilt a1.toInt 10 with h_a1_10 | h_a1_10
  · rcases j_ilt a1.toInt 0 with h_a1_0 | h_a1_0
    · refine ⟨60000, 60000, (-1), jh2, jh2, ?_, ?_, by decide +kernel⟩
      · refine Eq.trans (jr_s (pc2 := 1) (lv2 := [(0, .ref 9), (1, .int a1)]) (st2 := [.int a1]) jF_90_0 rfl rfl) ?_
        refine Eq.trans (jr_s (pc2 := 3) (lv2 := [(0, .ref 9), (1, .int a1)]) (st2 := [.int 10, .int a1]) jF_90_1 rfl rfl) ?_
        refine Eq.trans (jr_ic1 jF_90_3 (jk_ne_lt (show (a1 : Int32).toInt < (10 : Int32).toInt by rw [show (10 : Int32).toInt = 10 from by decide]; omega))) ?_
        refine Eq.trans (jr_s (pc2 := 17) (lv2 := [(0, .ref 9), (1, .int a1)]) (st2 := [.ref 9]) jF_90_16 rfl rfl) ?_
        refine Eq.trans (jr_gf (v := .ref 20) jF_90_17 (by decide +kernel)) ?_
        refine Eq.trans (jr_s (pc2 := 21) (lv2 := [(0, .ref 9), (1, .int a1)]) (st2 := [.int a1, .ref 20]) jF_90_20 rfl rfl) ?_
        refine Eq.trans (jr_cV (a := 20) (as := [.int a1]) (rest := []) (v := some (.int (-1))) (hp2 := jh2) (fr2 := 499) (lo2 := 19979) jF_90_21 (by decide +kernel) rfl (show j_cnd 500 20000 499 19979 2 _ _ = true from rfl) ?_) ?_
        · refine Eq.trans (jr_s (pc2 := 1) (lv2 := [(0, .ref 20), (1, .int a1)]) (st2 := [.int a1]) jF_91_0 rfl rfl) ?_
          refine Eq.trans (jr_ts jF_91_1 (Or.inl (by omega)) (tgt := 107) rfl) ?_
          refine Eq.trans (jr_s (pc2 := 108) (lv2 := [(0, .ref 20), (1, .int a1)]) (st2 := [.int (-1)]) jF_91_107 rfl rfl) ?_
          exact jr_ri jF_91_108 rfl
        exact jr_ri jF_90_24 rfl
      · refine Eq.trans (jr_s (pc2 := 1) (lv2 := [(0, .ref 117), (1, .int a1)]) (st2 := [.int a1]) jF_265_0 rfl rfl) ?_
        refine Eq.trans (jr_ts jF_265_1 (Or.inl (by omega)) (tgt := 134) rfl) ?_
        refine Eq.trans (jr_s (pc2 := 135) (lv2 := [(0, .ref 117), (1, .int a1)]) (st2 := [.int (-1)]) jF_265_134 rfl rfl) ?_
        exact jr_ri jF_265_135 rfl
    · rcases j_ilt a1.toInt 1 with h_a1_1 | h_a1_1
      · obtain rfl : a1 = 0 := Int32.toInt_inj.mp (by rw [show (0 : Int32).toInt = 0 from by decide]; omega)
        exact jpair_ok (n1 := 100000) (n2 := 100000) (by decide +kernel)
      · rcases j_ilt a1.toInt 2 with h_a1_2 | h_a1_2
        · obtain rfl : a1 = 1 := Int32.toInt_inj.mp (by rw [show (1 : Int32).toInt = 1 from by decide]; omega)
          exact jpair_ok (n1 := 100000) (n2 := 100000) (by decide +kernel)
        · rcases j_ilt a1.toInt 3 with h_a1_3 | h_a1_3
          · obtain rfl : a1 = 2 := Int32.toInt_inj.mp (by rw [show (2 : Int32).toInt = 2 from by decide]; omega)
            exact jpair_ok (n1 := 100000) (n2 := 100000) (by decide +kernel)
          · rcases j_ilt a1.toInt 4 with h_a1_4 | h_a1_4
            · obtain rfl : a1 = 3 := Int32.toInt_inj.mp (by rw [show (3 : Int32).toInt = 3 from by decide]; omega)
              exact jpair_ok (n1 := 100000) (n2 := 100000) (by decide +kernel)
            · rcases j_ilt a1.toInt 5 with h_a1_5 | h_a1_5
              · obtain rfl : a1 = 4 := Int32.toInt_inj.mp (by rw [show (4 : Int32).toInt = 4 from by decide]; omega)
                exact jpair_ok (n1 := 100000) (n2 := 100000) (by decide +kernel)
              · rcases j_ilt a1.toInt 6 with h_a1_6 | h_a1_6
                · obtain rfl : a1 = 5 := Int32.toInt_inj.mp (by rw [show (5 : Int32).toInt = 5 from by decide]; omega)
                  exact jpair_ok (n1 := 100000) (n2 := 100000) (by decide +kernel)
                · rcases j_ilt a1.toInt 7 with h_a1_7 | h_a1_7
                  · obtain rfl : a1 = 6 := Int32.toInt_inj.mp (by rw [show (6 : Int32).toInt = 6 from by decide]; omega)
                    exact jpair_ok (n1 := 100000) (n2 := 100000) (by decide +kernel)
                  · rcases j_ilt a1.toInt 8 with h_a1_8 | h_a1_8
                    · obtain rfl : a1 = 7 := Int32.toInt_inj.mp (by rw [show (7 : Int32).toInt = 7 from by decide]; omega)
                      exact jpair_ok (n1 := 100000) (n2 := 100000) (by decide +kernel)
                    · rcases j_ilt a1.toInt 9 with h_a1_9 | h_a1_9
                      · obtain rfl : a1 = 8 := Int32.toInt_inj.mp (by rw [show (8 : Int32).toInt = 8 from by decide]; omega)
                        exact jpair_ok (n1 := 100000) (n2 := 100000) (by decide +kernel)
                      · obtain rfl : a1 = 9 := Int32.toInt_inj.mp (by rw [show (9 : Int32).toInt = 9 from by decide]; omega)
                        exact jpair_ok (n1 := 100000) (n2 := 100000) (by decide +kernel)
  · rcases j_ilt a1.toInt 11 with h_a1_11 | h_a1_11
    · obtain rfl : a1 = 10 := Int32.toInt_inj.mp (by rw [show (10 : Int32).toInt = 10 from by decide]; omega)
      exact jpair_ok (n1 := 100000) (n2 := 100000) (by decide +kernel)
    · refine ⟨60000, 60000, (-1), jh2, jh2, ?_, ?_, by decide +kernel⟩
      · refine Eq.trans (jr_s (pc2 := 1) (lv2 := [(0, .ref 9), (1, .int a1)]) (st2 := [.int a1]) jF_90_0 rfl rfl) ?_
        refine Eq.trans (jr_s (pc2 := 3) (lv2 := [(0, .ref 9), (1, .int a1)]) (st2 := [.int 10, .int a1]) jF_90_1 rfl rfl) ?_
        refine Eq.trans (jr_ic1 jF_90_3 (jk_ne_gt (show (10 : Int32).toInt < (a1 : Int32).toInt by rw [show (10 : Int32).toInt = 10 from by decide]; omega))) ?_
        refine Eq.trans (jr_s (pc2 := 17) (lv2 := [(0, .ref 9), (1, .int a1)]) (st2 := [.ref 9]) jF_90_16 rfl rfl) ?_
        refine Eq.trans (jr_gf (v := .ref 20) jF_90_17 (by decide +kernel)) ?_
        refine Eq.trans (jr_s (pc2 := 21) (lv2 := [(0, .ref 9), (1, .int a1)]) (st2 := [.int a1, .ref 20]) jF_90_20 rfl rfl) ?_
        refine Eq.trans (jr_cV (a := 20) (as := [.int a1]) (rest := []) (v := some (.int (-1))) (hp2 := jh2) (fr2 := 499) (lo2 := 19979) jF_90_21 (by decide +kernel) rfl (show j_cnd 500 20000 499 19979 2 _ _ = true from rfl) ?_) ?_
        · refine Eq.trans (jr_s (pc2 := 1) (lv2 := [(0, .ref 20), (1, .int a1)]) (st2 := [.int a1]) jF_91_0 rfl rfl) ?_
          refine Eq.trans (jr_ts jF_91_1 (Or.inr (by omega)) (tgt := 107) rfl) ?_
          refine Eq.trans (jr_s (pc2 := 108) (lv2 := [(0, .ref 20), (1, .int a1)]) (st2 := [.int (-1)]) jF_91_107 rfl rfl) ?_
          exact jr_ri jF_91_108 rfl
        exact jr_ri jF_90_24 rfl
      · refine Eq.trans (jr_s (pc2 := 1) (lv2 := [(0, .ref 117), (1, .int a1)]) (st2 := [.int a1]) jF_265_0 rfl rfl) ?_
        refine Eq.trans (jr_ts jF_265_1 (Or.inr (by omega)) (tgt := 134) rfl) ?_
        refine Eq.trans (jr_s (pc2 := 135) (lv2 := [(0, .ref 117), (1, .int a1)]) (st2 := [.int (-1)]) jF_265_134 rfl rfl) ?_
        exact jr_ri jF_265_135 rfl
