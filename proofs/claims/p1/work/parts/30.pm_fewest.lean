set_option maxHeartbeats 8000000 in
set_option maxRecDepth 100000 in
theorem pm_fewest_0 (a2 : Int32) : PM 124 294 [.int 0, .int a2] := by
  have ub_a2 := Int32.toInt_lt a2
  have lb_a2 := Int32.le_toInt a2
  rcases j_ilt a2.toInt 0 with h_a2_0 | h_a2_0
  · refine ⟨60000, 60000, (-1), jh2, jh2, ?_, ?_, by decide +kernel⟩
    · refine Eq.trans (jr_s (pc2 := 1) (lv2 := [(0, .ref 9), (1, .int 0), (2, .int a2)]) (st2 := [.int 0]) jF_124_0 rfl rfl) ?_
      refine Eq.trans (jr_if1 jF_124_1 (by decide +kernel)) ?_
      refine Eq.trans (jr_s (pc2 := 12) (lv2 := [(0, .ref 9), (1, .int 0), (2, .int a2)]) (st2 := [.ref 9]) jF_124_11 rfl rfl) ?_
      refine Eq.trans (jr_gf (v := .ref 70) jF_124_12 (by decide +kernel)) ?_
      refine Eq.trans (jr_s (pc2 := 16) (lv2 := [(3, .ref 70), (0, .ref 9), (1, .int 0), (2, .int a2)]) (st2 := []) jF_124_15 rfl rfl) ?_
      refine Eq.trans (jr_s (pc2 := 17) (lv2 := [(3, .ref 70), (0, .ref 9), (1, .int 0), (2, .int a2)]) (st2 := [.ref 9]) jF_124_16 rfl rfl) ?_
      refine Eq.trans (jr_gf (v := .ref 93) jF_124_17 (by decide +kernel)) ?_
      refine Eq.trans (jr_s (pc2 := 21) (lv2 := [(3, .ref 70), (0, .ref 9), (1, .int 0), (2, .int a2)]) (st2 := [.ref 9, .ref 93]) jF_124_20 rfl rfl) ?_
      refine Eq.trans (jr_gf (v := .ref 20) jF_124_21 (by decide +kernel)) ?_
      refine Eq.trans (jr_s (pc2 := 25) (lv2 := [(3, .ref 70), (0, .ref 9), (1, .int 0), (2, .int a2)]) (st2 := [.ref 70, .ref 20, .ref 93]) jF_124_24 rfl rfl) ?_
      refine Eq.trans (jr_gf (v := .long 0) jF_124_25 (by decide +kernel)) ?_
      refine Eq.trans (jr_s (pc2 := 29) (lv2 := [(3, .ref 70), (0, .ref 9), (1, .int 0), (2, .int a2)]) (st2 := [.int 0, .long 0, .ref 20, .ref 93]) jF_124_28 rfl rfl) ?_
      refine Eq.trans (jr_cS (as := [.int 0]) (rest := [.long 0, .ref 20, .ref 93]) (v := some (.int 0)) (hp2 := jh2) (fr2 := 499) (lo2 := 19980) jF_124_29 rfl (show j_cnd 500 20000 499 19980 1 _ _ = true from rfl) ?_) ?_
      · refine Eq.trans (jr_s (pc2 := 1) (lv2 := [(0, .int 0)]) (st2 := [.int 0]) jF_98_0 rfl rfl) ?_
        refine Eq.trans (jr_if1 jF_98_1 (by decide +kernel)) ?_
        refine Eq.trans (jr_s (pc2 := 9) (lv2 := [(0, .int 0)]) (st2 := [.int 0]) jF_98_8 rfl rfl) ?_
        exact jr_ri jF_98_9 rfl
      refine Eq.trans (jr_s (pc2 := 33) (lv2 := [(3, .ref 70), (0, .ref 9), (1, .int 0), (2, .int a2)]) (st2 := [.int a2, .int 0, .long 0, .ref 20, .ref 93]) jF_124_32 rfl rfl) ?_
      refine Eq.trans (jr_cV (a := 93) (as := [.ref 20, .long 0, .int 0, .int a2]) (rest := []) (v := some (.int (-1))) (hp2 := jh2) (fr2 := 499) (lo2 := 19974) jF_124_33 (by decide +kernel) rfl (show j_cnd 500 20000 499 19974 7 _ _ = true from rfl) ?_) ?_
      · refine Eq.trans (jr_s (pc2 := 2) (lv2 := [(0, .ref 93), (1, .ref 20), (2, .long 0), (4, .int 0), (5, .int a2)]) (st2 := [.int a2]) jF_125_0 rfl rfl) ?_
        refine Eq.trans (jr_if1 jF_125_2 (jk_lt_lt (show (a2 : Int32).toInt < (0 : Int32).toInt by rw [show (0 : Int32).toInt = 0 from by decide]; omega))) ?_
        refine Eq.trans (jr_s (pc2 := 27) (lv2 := [(0, .ref 93), (1, .ref 20), (2, .long 0), (4, .int 0), (5, .int a2)]) (st2 := [.int (-1)]) jF_125_26 rfl rfl) ?_
        exact jr_ri jF_125_27 rfl
      exact jr_ri jF_124_36 rfl
    · refine Eq.trans (jr_s (pc2 := 1) (lv2 := [(0, .ref 117), (1, .int 0), (2, .int a2)]) (st2 := [.int a2]) jF_294_0 rfl rfl) ?_
      refine Eq.trans (jr_s (pc2 := 2) (lv2 := [(0, .ref 117), (1, .int 0), (2, .int a2)]) (st2 := [.long (Int32.toInt64 a2)]) jF_294_1 rfl rfl) ?_
      refine Eq.trans (jr_s (pc2 := 3) (lv2 := [(0, .ref 117), (1, .int 0), (2, .int a2)]) (st2 := [.long 0, .long (Int32.toInt64 a2)]) jF_294_2 rfl rfl) ?_
      refine Eq.trans (jr_s (pc2 := 6) (lv2 := [(0, .ref 117), (1, .int 0), (2, .int a2)]) (st2 := [.long 3, .long 0, .long (Int32.toInt64 a2)]) jF_294_3 rfl rfl) ?_
      refine Eq.trans (jr_cS (as := [.long (Int32.toInt64 a2), .long 0, .long 3]) (rest := []) (v := some (.int 0)) (hp2 := jh2) (fr2 := 499) (lo2 := 19975) jF_294_6 rfl (show j_cnd 500 20000 499 19975 6 _ _ = true from rfl) ?_) ?_
      · refine Eq.trans (jr_s (pc2 := 1) (lv2 := [(0, .long (Int32.toInt64 a2)), (2, .long 0), (4, .long 3)]) (st2 := [.long (Int32.toInt64 a2)]) jF_232_0 rfl rfl) ?_
        refine Eq.trans (jr_s (pc2 := 2) (lv2 := [(0, .long (Int32.toInt64 a2)), (2, .long 0), (4, .long 3)]) (st2 := [.long 0, .long (Int32.toInt64 a2)]) jF_232_1 rfl rfl) ?_
        refine Eq.trans (jr_s (pc2 := 3) (lv2 := [(0, .long (Int32.toInt64 a2)), (2, .long 0), (4, .long 3)]) (st2 := [.int (lg_cmp (Int32.toInt64 a2) 0)]) jF_232_2 rfl rfl) ?_
        refine Eq.trans (jr_if1 jF_232_3 (jkl_lt_lt (show ((Int32.toInt64 a2) : Int64).toInt < (0 : Int64).toInt by rw [Int32.toInt_toInt64, show (0 : Int64).toInt = 0 from by decide]; omega))) ?_
        refine Eq.trans (jr_s (pc2 := 18) (lv2 := [(0, .long (Int32.toInt64 a2)), (2, .long 0), (4, .long 3)]) (st2 := [.int 0]) jF_232_17 rfl rfl) ?_
        exact jr_ri jF_232_18 rfl
      refine Eq.trans (jr_if0 jF_294_9 (by decide +kernel)) ?_
      refine Eq.trans (jr_s (pc2 := 13) (lv2 := [(0, .ref 117), (1, .int 0), (2, .int a2)]) (st2 := [.int (-1)]) jF_294_12 rfl rfl) ?_
      exact jr_ri jF_294_13 rfl
  · rcases j_ilt a2.toInt 4 with h_a2_4 | h_a2_4
    · rcases j_ilt a2.toInt 1 with h_a2_1 | h_a2_1
      · obtain rfl : a2 = 0 := Int32.toInt_inj.mp (by rw [show (0 : Int32).toInt = 0 from by decide]; omega)
        exact jpair_ok (n1 := 100000) (n2 := 100000) (by decide +kernel)
      · rcases j_ilt a2.toInt 2 with h_a2_2 | h_a2_2
        · obtain rfl : a2 = 1 := Int32.toInt_inj.mp (by rw [show (1 : Int32).toInt = 1 from by decide]; omega)
          exact jpair_ok (n1 := 100000) (n2 := 100000) (by decide +kernel)
        · rcases j_ilt a2.toInt 3 with h_a2_3 | h_a2_3
          · obtain rfl : a2 = 2 := Int32.toInt_inj.mp (by rw [show (2 : Int32).toInt = 2 from by decide]; omega)
            exact jpair_ok (n1 := 100000) (n2 := 100000) (by decide +kernel)
          · obtain rfl : a2 = 3 := Int32.toInt_inj.mp (by rw [show (3 : Int32).toInt = 3 from by decide]; omega)
            exact jpair_ok (n1 := 100000) (n2 := 100000) (by decide +kernel)
    · refine ⟨60000, 60000, (-1), jh2, jh2, ?_, ?_, by decide +kernel⟩
      · refine Eq.trans (jr_s (pc2 := 1) (lv2 := [(0, .ref 9), (1, .int 0), (2, .int a2)]) (st2 := [.int 0]) jF_124_0 rfl rfl) ?_
        refine Eq.trans (jr_if1 jF_124_1 (by decide +kernel)) ?_
        refine Eq.trans (jr_s (pc2 := 12) (lv2 := [(0, .ref 9), (1, .int 0), (2, .int a2)]) (st2 := [.ref 9]) jF_124_11 rfl rfl) ?_
        refine Eq.trans (jr_gf (v := .ref 70) jF_124_12 (by decide +kernel)) ?_
        refine Eq.trans (jr_s (pc2 := 16) (lv2 := [(3, .ref 70), (0, .ref 9), (1, .int 0), (2, .int a2)]) (st2 := []) jF_124_15 rfl rfl) ?_
        refine Eq.trans (jr_s (pc2 := 17) (lv2 := [(3, .ref 70), (0, .ref 9), (1, .int 0), (2, .int a2)]) (st2 := [.ref 9]) jF_124_16 rfl rfl) ?_
        refine Eq.trans (jr_gf (v := .ref 93) jF_124_17 (by decide +kernel)) ?_
        refine Eq.trans (jr_s (pc2 := 21) (lv2 := [(3, .ref 70), (0, .ref 9), (1, .int 0), (2, .int a2)]) (st2 := [.ref 9, .ref 93]) jF_124_20 rfl rfl) ?_
        refine Eq.trans (jr_gf (v := .ref 20) jF_124_21 (by decide +kernel)) ?_
        refine Eq.trans (jr_s (pc2 := 25) (lv2 := [(3, .ref 70), (0, .ref 9), (1, .int 0), (2, .int a2)]) (st2 := [.ref 70, .ref 20, .ref 93]) jF_124_24 rfl rfl) ?_
        refine Eq.trans (jr_gf (v := .long 0) jF_124_25 (by decide +kernel)) ?_
        refine Eq.trans (jr_s (pc2 := 29) (lv2 := [(3, .ref 70), (0, .ref 9), (1, .int 0), (2, .int a2)]) (st2 := [.int 0, .long 0, .ref 20, .ref 93]) jF_124_28 rfl rfl) ?_
        refine Eq.trans (jr_cS (as := [.int 0]) (rest := [.long 0, .ref 20, .ref 93]) (v := some (.int 0)) (hp2 := jh2) (fr2 := 499) (lo2 := 19980) jF_124_29 rfl (show j_cnd 500 20000 499 19980 1 _ _ = true from rfl) ?_) ?_
        · refine Eq.trans (jr_s (pc2 := 1) (lv2 := [(0, .int 0)]) (st2 := [.int 0]) jF_98_0 rfl rfl) ?_
          refine Eq.trans (jr_if1 jF_98_1 (by decide +kernel)) ?_
          refine Eq.trans (jr_s (pc2 := 9) (lv2 := [(0, .int 0)]) (st2 := [.int 0]) jF_98_8 rfl rfl) ?_
          exact jr_ri jF_98_9 rfl
        refine Eq.trans (jr_s (pc2 := 33) (lv2 := [(3, .ref 70), (0, .ref 9), (1, .int 0), (2, .int a2)]) (st2 := [.int a2, .int 0, .long 0, .ref 20, .ref 93]) jF_124_32 rfl rfl) ?_
        refine Eq.trans (jr_cV (a := 93) (as := [.ref 20, .long 0, .int 0, .int a2]) (rest := []) (v := some (.int (-1))) (hp2 := jh2) (fr2 := 499) (lo2 := 19974) jF_124_33 (by decide +kernel) rfl (show j_cnd 500 20000 499 19974 7 _ _ = true from rfl) ?_) ?_
        · refine Eq.trans (jr_s (pc2 := 2) (lv2 := [(0, .ref 93), (1, .ref 20), (2, .long 0), (4, .int 0), (5, .int a2)]) (st2 := [.int a2]) jF_125_0 rfl rfl) ?_
          refine Eq.trans (jr_if0 jF_125_2 (jk_lt_ge (show (0 : Int32).toInt ≤ (a2 : Int32).toInt by rw [show (0 : Int32).toInt = 0 from by decide]; omega))) ?_
          refine Eq.trans (jr_s (pc2 := 7) (lv2 := [(0, .ref 93), (1, .ref 20), (2, .long 0), (4, .int 0), (5, .int a2)]) (st2 := [.int a2]) jF_125_5 rfl rfl) ?_
          refine Eq.trans (jr_s (pc2 := 8) (lv2 := [(0, .ref 93), (1, .ref 20), (2, .long 0), (4, .int 0), (5, .int a2)]) (st2 := [.int 4, .int a2]) jF_125_7 rfl rfl) ?_
          refine Eq.trans (jr_ic1 jF_125_8 (jk_ge_ge (show (4 : Int32).toInt ≤ (a2 : Int32).toInt by rw [show (4 : Int32).toInt = 4 from by decide]; omega))) ?_
          refine Eq.trans (jr_s (pc2 := 27) (lv2 := [(0, .ref 93), (1, .ref 20), (2, .long 0), (4, .int 0), (5, .int a2)]) (st2 := [.int (-1)]) jF_125_26 rfl rfl) ?_
          exact jr_ri jF_125_27 rfl
        exact jr_ri jF_124_36 rfl
      · refine Eq.trans (jr_s (pc2 := 1) (lv2 := [(0, .ref 117), (1, .int 0), (2, .int a2)]) (st2 := [.int a2]) jF_294_0 rfl rfl) ?_
        refine Eq.trans (jr_s (pc2 := 2) (lv2 := [(0, .ref 117), (1, .int 0), (2, .int a2)]) (st2 := [.long (Int32.toInt64 a2)]) jF_294_1 rfl rfl) ?_
        refine Eq.trans (jr_s (pc2 := 3) (lv2 := [(0, .ref 117), (1, .int 0), (2, .int a2)]) (st2 := [.long 0, .long (Int32.toInt64 a2)]) jF_294_2 rfl rfl) ?_
        refine Eq.trans (jr_s (pc2 := 6) (lv2 := [(0, .ref 117), (1, .int 0), (2, .int a2)]) (st2 := [.long 3, .long 0, .long (Int32.toInt64 a2)]) jF_294_3 rfl rfl) ?_
        refine Eq.trans (jr_cS (as := [.long (Int32.toInt64 a2), .long 0, .long 3]) (rest := []) (v := some (.int 0)) (hp2 := jh2) (fr2 := 499) (lo2 := 19975) jF_294_6 rfl (show j_cnd 500 20000 499 19975 6 _ _ = true from rfl) ?_) ?_
        · refine Eq.trans (jr_s (pc2 := 1) (lv2 := [(0, .long (Int32.toInt64 a2)), (2, .long 0), (4, .long 3)]) (st2 := [.long (Int32.toInt64 a2)]) jF_232_0 rfl rfl) ?_
          refine Eq.trans (jr_s (pc2 := 2) (lv2 := [(0, .long (Int32.toInt64 a2)), (2, .long 0), (4, .long 3)]) (st2 := [.long 0, .long (Int32.toInt64 a2)]) jF_232_1 rfl rfl) ?_
          refine Eq.trans (jr_s (pc2 := 3) (lv2 := [(0, .long (Int32.toInt64 a2)), (2, .long 0), (4, .long 3)]) (st2 := [.int (lg_cmp (Int32.toInt64 a2) 0)]) jF_232_2 rfl rfl) ?_
          refine Eq.trans (jr_if0 jF_232_3 (jkl_lt_ge (show (0 : Int64).toInt ≤ ((Int32.toInt64 a2) : Int64).toInt by rw [Int32.toInt_toInt64, show (0 : Int64).toInt = 0 from by decide]; omega))) ?_
          refine Eq.trans (jr_s (pc2 := 7) (lv2 := [(0, .long (Int32.toInt64 a2)), (2, .long 0), (4, .long 3)]) (st2 := [.long (Int32.toInt64 a2)]) jF_232_6 rfl rfl) ?_
          refine Eq.trans (jr_s (pc2 := 9) (lv2 := [(0, .long (Int32.toInt64 a2)), (2, .long 0), (4, .long 3)]) (st2 := [.long 3, .long (Int32.toInt64 a2)]) jF_232_7 rfl rfl) ?_
          refine Eq.trans (jr_s (pc2 := 10) (lv2 := [(0, .long (Int32.toInt64 a2)), (2, .long 0), (4, .long 3)]) (st2 := [.int (lg_cmp (Int32.toInt64 a2) 3)]) jF_232_9 rfl rfl) ?_
          refine Eq.trans (jr_if1 jF_232_10 (jkl_gt_gt (show (3 : Int64).toInt < ((Int32.toInt64 a2) : Int64).toInt by rw [Int32.toInt_toInt64, show (3 : Int64).toInt = 3 from by decide]; omega))) ?_
          refine Eq.trans (jr_s (pc2 := 18) (lv2 := [(0, .long (Int32.toInt64 a2)), (2, .long 0), (4, .long 3)]) (st2 := [.int 0]) jF_232_17 rfl rfl) ?_
          exact jr_ri jF_232_18 rfl
        refine Eq.trans (jr_if0 jF_294_9 (by decide +kernel)) ?_
        refine Eq.trans (jr_s (pc2 := 13) (lv2 := [(0, .ref 117), (1, .int 0), (2, .int a2)]) (st2 := [.int (-1)]) jF_294_12 rfl rfl) ?_
        exact jr_ri jF_294_13 rfl
set_option maxHeartbeats 8000000 in
set_option maxRecDepth 100000 in
theorem pm_fewest_1 (a2 : Int32) : PM 124 294 [.int 1, .int a2] := by
  have ub_a2 := Int32.toInt_lt a2
  have lb_a2 := Int32.le_toInt a2
  rcases j_ilt a2.toInt 0 with h_a2_0 | h_a2_0
  · refine ⟨60000, 60000, (-1), jh2, jh2, ?_, ?_, by decide +kernel⟩
    · refine Eq.trans (jr_s (pc2 := 1) (lv2 := [(0, .ref 9), (1, .int 1), (2, .int a2)]) (st2 := [.int 1]) jF_124_0 rfl rfl) ?_
      refine Eq.trans (jr_if0 jF_124_1 (by decide +kernel)) ?_
      refine Eq.trans (jr_s (pc2 := 5) (lv2 := [(0, .ref 9), (1, .int 1), (2, .int a2)]) (st2 := [.ref 9]) jF_124_4 rfl rfl) ?_
      refine Eq.trans (jr_gf (v := .ref 75) jF_124_5 (by decide +kernel)) ?_
      refine Eq.trans (jr_s (pc2 := 15) (lv2 := [(0, .ref 9), (1, .int 1), (2, .int a2)]) (st2 := [.ref 75]) jF_124_8 rfl rfl) ?_
      refine Eq.trans (jr_s (pc2 := 16) (lv2 := [(3, .ref 75), (0, .ref 9), (1, .int 1), (2, .int a2)]) (st2 := []) jF_124_15 rfl rfl) ?_
      refine Eq.trans (jr_s (pc2 := 17) (lv2 := [(3, .ref 75), (0, .ref 9), (1, .int 1), (2, .int a2)]) (st2 := [.ref 9]) jF_124_16 rfl rfl) ?_
      refine Eq.trans (jr_gf (v := .ref 93) jF_124_17 (by decide +kernel)) ?_
      refine Eq.trans (jr_s (pc2 := 21) (lv2 := [(3, .ref 75), (0, .ref 9), (1, .int 1), (2, .int a2)]) (st2 := [.ref 9, .ref 93]) jF_124_20 rfl rfl) ?_
      refine Eq.trans (jr_gf (v := .ref 20) jF_124_21 (by decide +kernel)) ?_
      refine Eq.trans (jr_s (pc2 := 25) (lv2 := [(3, .ref 75), (0, .ref 9), (1, .int 1), (2, .int a2)]) (st2 := [.ref 75, .ref 20, .ref 93]) jF_124_24 rfl rfl) ?_
      refine Eq.trans (jr_gf (v := .long 0) jF_124_25 (by decide +kernel)) ?_
      refine Eq.trans (jr_s (pc2 := 29) (lv2 := [(3, .ref 75), (0, .ref 9), (1, .int 1), (2, .int a2)]) (st2 := [.int 1, .long 0, .ref 20, .ref 93]) jF_124_28 rfl rfl) ?_
      refine Eq.trans (jr_cS (as := [.int 1]) (rest := [.long 0, .ref 20, .ref 93]) (v := some (.int 1)) (hp2 := jh2) (fr2 := 499) (lo2 := 19980) jF_124_29 rfl (show j_cnd 500 20000 499 19980 1 _ _ = true from rfl) ?_) ?_
      · refine Eq.trans (jr_s (pc2 := 1) (lv2 := [(0, .int 1)]) (st2 := [.int 1]) jF_98_0 rfl rfl) ?_
        refine Eq.trans (jr_if0 jF_98_1 (by decide +kernel)) ?_
        refine Eq.trans (jr_s (pc2 := 5) (lv2 := [(0, .int 1)]) (st2 := [.int 1]) jF_98_4 rfl rfl) ?_
        refine Eq.trans (jr_s (pc2 := 9) (lv2 := [(0, .int 1)]) (st2 := [.int 1]) jF_98_5 rfl rfl) ?_
        exact jr_ri jF_98_9 rfl
      refine Eq.trans (jr_s (pc2 := 33) (lv2 := [(3, .ref 75), (0, .ref 9), (1, .int 1), (2, .int a2)]) (st2 := [.int a2, .int 1, .long 0, .ref 20, .ref 93]) jF_124_32 rfl rfl) ?_
      refine Eq.trans (jr_cV (a := 93) (as := [.ref 20, .long 0, .int 1, .int a2]) (rest := []) (v := some (.int (-1))) (hp2 := jh2) (fr2 := 499) (lo2 := 19974) jF_124_33 (by decide +kernel) rfl (show j_cnd 500 20000 499 19974 7 _ _ = true from rfl) ?_) ?_
      · refine Eq.trans (jr_s (pc2 := 2) (lv2 := [(0, .ref 93), (1, .ref 20), (2, .long 0), (4, .int 1), (5, .int a2)]) (st2 := [.int a2]) jF_125_0 rfl rfl) ?_
        refine Eq.trans (jr_if1 jF_125_2 (jk_lt_lt (show (a2 : Int32).toInt < (0 : Int32).toInt by rw [show (0 : Int32).toInt = 0 from by decide]; omega))) ?_
        refine Eq.trans (jr_s (pc2 := 27) (lv2 := [(0, .ref 93), (1, .ref 20), (2, .long 0), (4, .int 1), (5, .int a2)]) (st2 := [.int (-1)]) jF_125_26 rfl rfl) ?_
        exact jr_ri jF_125_27 rfl
      exact jr_ri jF_124_36 rfl
    · refine Eq.trans (jr_s (pc2 := 1) (lv2 := [(0, .ref 117), (1, .int 1), (2, .int a2)]) (st2 := [.int a2]) jF_294_0 rfl rfl) ?_
      refine Eq.trans (jr_s (pc2 := 2) (lv2 := [(0, .ref 117), (1, .int 1), (2, .int a2)]) (st2 := [.long (Int32.toInt64 a2)]) jF_294_1 rfl rfl) ?_
      refine Eq.trans (jr_s (pc2 := 3) (lv2 := [(0, .ref 117), (1, .int 1), (2, .int a2)]) (st2 := [.long 0, .long (Int32.toInt64 a2)]) jF_294_2 rfl rfl) ?_
      refine Eq.trans (jr_s (pc2 := 6) (lv2 := [(0, .ref 117), (1, .int 1), (2, .int a2)]) (st2 := [.long 3, .long 0, .long (Int32.toInt64 a2)]) jF_294_3 rfl rfl) ?_
      refine Eq.trans (jr_cS (as := [.long (Int32.toInt64 a2), .long 0, .long 3]) (rest := []) (v := some (.int 0)) (hp2 := jh2) (fr2 := 499) (lo2 := 19975) jF_294_6 rfl (show j_cnd 500 20000 499 19975 6 _ _ = true from rfl) ?_) ?_
      · refine Eq.trans (jr_s (pc2 := 1) (lv2 := [(0, .long (Int32.toInt64 a2)), (2, .long 0), (4, .long 3)]) (st2 := [.long (Int32.toInt64 a2)]) jF_232_0 rfl rfl) ?_
        refine Eq.trans (jr_s (pc2 := 2) (lv2 := [(0, .long (Int32.toInt64 a2)), (2, .long 0), (4, .long 3)]) (st2 := [.long 0, .long (Int32.toInt64 a2)]) jF_232_1 rfl rfl) ?_
        refine Eq.trans (jr_s (pc2 := 3) (lv2 := [(0, .long (Int32.toInt64 a2)), (2, .long 0), (4, .long 3)]) (st2 := [.int (lg_cmp (Int32.toInt64 a2) 0)]) jF_232_2 rfl rfl) ?_
        refine Eq.trans (jr_if1 jF_232_3 (jkl_lt_lt (show ((Int32.toInt64 a2) : Int64).toInt < (0 : Int64).toInt by rw [Int32.toInt_toInt64, show (0 : Int64).toInt = 0 from by decide]; omega))) ?_
        refine Eq.trans (jr_s (pc2 := 18) (lv2 := [(0, .long (Int32.toInt64 a2)), (2, .long 0), (4, .long 3)]) (st2 := [.int 0]) jF_232_17 rfl rfl) ?_
        exact jr_ri jF_232_18 rfl
      refine Eq.trans (jr_if0 jF_294_9 (by decide +kernel)) ?_
      refine Eq.trans (jr_s (pc2 := 13) (lv2 := [(0, .ref 117), (1, .int 1), (2, .int a2)]) (st2 := [.int (-1)]) jF_294_12 rfl rfl) ?_
      exact jr_ri jF_294_13 rfl
  · rcases j_ilt a2.toInt 4 with h_a2_4 | h_a2_4
    · rcases j_ilt a2.toInt 1 with h_a2_1 | h_a2_1
      · obtain rfl : a2 = 0 := Int32.toInt_inj.mp (by rw [show (0 : Int32).toInt = 0 from by decide]; omega)
        exact jpair_ok (n1 := 100000) (n2 := 100000) (by decide +kernel)
      · rcases j_ilt a2.toInt 2 with h_a2_2 | h_a2_2
        · obtain rfl : a2 = 1 := Int32.toInt_inj.mp (by rw [show (1 : Int32).toInt = 1 from by decide]; omega)
          exact jpair_ok (n1 := 100000) (n2 := 100000) (by decide +kernel)
        · rcases j_ilt a2.toInt 3 with h_a2_3 | h_a2_3
          · obtain rfl : a2 = 2 := Int32.toInt_inj.mp (by rw [show (2 : Int32).toInt = 2 from by decide]; omega)
            exact jpair_ok (n1 := 100000) (n2 := 100000) (by decide +kernel)
          · obtain rfl : a2 = 3 := Int32.toInt_inj.mp (by rw [show (3 : Int32).toInt = 3 from by decide]; omega)
            exact jpair_ok (n1 := 100000) (n2 := 100000) (by decide +kernel)
    · refine ⟨60000, 60000, (-1), jh2, jh2, ?_, ?_, by decide +kernel⟩
      · refine Eq.trans (jr_s (pc2 := 1) (lv2 := [(0, .ref 9), (1, .int 1), (2, .int a2)]) (st2 := [.int 1]) jF_124_0 rfl rfl) ?_
        refine Eq.trans (jr_if0 jF_124_1 (by decide +kernel)) ?_
        refine Eq.trans (jr_s (pc2 := 5) (lv2 := [(0, .ref 9), (1, .int 1), (2, .int a2)]) (st2 := [.ref 9]) jF_124_4 rfl rfl) ?_
        refine Eq.trans (jr_gf (v := .ref 75) jF_124_5 (by decide +kernel)) ?_
        refine Eq.trans (jr_s (pc2 := 15) (lv2 := [(0, .ref 9), (1, .int 1), (2, .int a2)]) (st2 := [.ref 75]) jF_124_8 rfl rfl) ?_
        refine Eq.trans (jr_s (pc2 := 16) (lv2 := [(3, .ref 75), (0, .ref 9), (1, .int 1), (2, .int a2)]) (st2 := []) jF_124_15 rfl rfl) ?_
        refine Eq.trans (jr_s (pc2 := 17) (lv2 := [(3, .ref 75), (0, .ref 9), (1, .int 1), (2, .int a2)]) (st2 := [.ref 9]) jF_124_16 rfl rfl) ?_
        refine Eq.trans (jr_gf (v := .ref 93) jF_124_17 (by decide +kernel)) ?_
        refine Eq.trans (jr_s (pc2 := 21) (lv2 := [(3, .ref 75), (0, .ref 9), (1, .int 1), (2, .int a2)]) (st2 := [.ref 9, .ref 93]) jF_124_20 rfl rfl) ?_
        refine Eq.trans (jr_gf (v := .ref 20) jF_124_21 (by decide +kernel)) ?_
        refine Eq.trans (jr_s (pc2 := 25) (lv2 := [(3, .ref 75), (0, .ref 9), (1, .int 1), (2, .int a2)]) (st2 := [.ref 75, .ref 20, .ref 93]) jF_124_24 rfl rfl) ?_
        refine Eq.trans (jr_gf (v := .long 0) jF_124_25 (by decide +kernel)) ?_
        refine Eq.trans (jr_s (pc2 := 29) (lv2 := [(3, .ref 75), (0, .ref 9), (1, .int 1), (2, .int a2)]) (st2 := [.int 1, .long 0, .ref 20, .ref 93]) jF_124_28 rfl rfl) ?_
        refine Eq.trans (jr_cS (as := [.int 1]) (rest := [.long 0, .ref 20, .ref 93]) (v := some (.int 1)) (hp2 := jh2) (fr2 := 499) (lo2 := 19980) jF_124_29 rfl (show j_cnd 500 20000 499 19980 1 _ _ = true from rfl) ?_) ?_
        · refine Eq.trans (jr_s (pc2 := 1) (lv2 := [(0, .int 1)]) (st2 := [.int 1]) jF_98_0 rfl rfl) ?_
          refine Eq.trans (jr_if0 jF_98_1 (by decide +kernel)) ?_
          refine Eq.trans (jr_s (pc2 := 5) (lv2 := [(0, .int 1)]) (st2 := [.int 1]) jF_98_4 rfl rfl) ?_
          refine Eq.trans (jr_s (pc2 := 9) (lv2 := [(0, .int 1)]) (st2 := [.int 1]) jF_98_5 rfl rfl) ?_
          exact jr_ri jF_98_9 rfl
        refine Eq.trans (jr_s (pc2 := 33) (lv2 := [(3, .ref 75), (0, .ref 9), (1, .int 1), (2, .int a2)]) (st2 := [.int a2, .int 1, .long 0, .ref 20, .ref 93]) jF_124_32 rfl rfl) ?_
        refine Eq.trans (jr_cV (a := 93) (as := [.ref 20, .long 0, .int 1, .int a2]) (rest := []) (v := some (.int (-1))) (hp2 := jh2) (fr2 := 499) (lo2 := 19974) jF_124_33 (by decide +kernel) rfl (show j_cnd 500 20000 499 19974 7 _ _ = true from rfl) ?_) ?_
        · refine Eq.trans (jr_s (pc2 := 2) (lv2 := [(0, .ref 93), (1, .ref 20), (2, .long 0), (4, .int 1), (5, .int a2)]) (st2 := [.int a2]) jF_125_0 rfl rfl) ?_
          refine Eq.trans (jr_if0 jF_125_2 (jk_lt_ge (show (0 : Int32).toInt ≤ (a2 : Int32).toInt by rw [show (0 : Int32).toInt = 0 from by decide]; omega))) ?_
          refine Eq.trans (jr_s (pc2 := 7) (lv2 := [(0, .ref 93), (1, .ref 20), (2, .long 0), (4, .int 1), (5, .int a2)]) (st2 := [.int a2]) jF_125_5 rfl rfl) ?_
          refine Eq.trans (jr_s (pc2 := 8) (lv2 := [(0, .ref 93), (1, .ref 20), (2, .long 0), (4, .int 1), (5, .int a2)]) (st2 := [.int 4, .int a2]) jF_125_7 rfl rfl) ?_
          refine Eq.trans (jr_ic1 jF_125_8 (jk_ge_ge (show (4 : Int32).toInt ≤ (a2 : Int32).toInt by rw [show (4 : Int32).toInt = 4 from by decide]; omega))) ?_
          refine Eq.trans (jr_s (pc2 := 27) (lv2 := [(0, .ref 93), (1, .ref 20), (2, .long 0), (4, .int 1), (5, .int a2)]) (st2 := [.int (-1)]) jF_125_26 rfl rfl) ?_
          exact jr_ri jF_125_27 rfl
        exact jr_ri jF_124_36 rfl
      · refine Eq.trans (jr_s (pc2 := 1) (lv2 := [(0, .ref 117), (1, .int 1), (2, .int a2)]) (st2 := [.int a2]) jF_294_0 rfl rfl) ?_
        refine Eq.trans (jr_s (pc2 := 2) (lv2 := [(0, .ref 117), (1, .int 1), (2, .int a2)]) (st2 := [.long (Int32.toInt64 a2)]) jF_294_1 rfl rfl) ?_
        refine Eq.trans (jr_s (pc2 := 3) (lv2 := [(0, .ref 117), (1, .int 1), (2, .int a2)]) (st2 := [.long 0, .long (Int32.toInt64 a2)]) jF_294_2 rfl rfl) ?_
        refine Eq.trans (jr_s (pc2 := 6) (lv2 := [(0, .ref 117), (1, .int 1), (2, .int a2)]) (st2 := [.long 3, .long 0, .long (Int32.toInt64 a2)]) jF_294_3 rfl rfl) ?_
        refine Eq.trans (jr_cS (as := [.long (Int32.toInt64 a2), .long 0, .long 3]) (rest := []) (v := some (.int 0)) (hp2 := jh2) (fr2 := 499) (lo2 := 19975) jF_294_6 rfl (show j_cnd 500 20000 499 19975 6 _ _ = true from rfl) ?_) ?_
        · refine Eq.trans (jr_s (pc2 := 1) (lv2 := [(0, .long (Int32.toInt64 a2)), (2, .long 0), (4, .long 3)]) (st2 := [.long (Int32.toInt64 a2)]) jF_232_0 rfl rfl) ?_
          refine Eq.trans (jr_s (pc2 := 2) (lv2 := [(0, .long (Int32.toInt64 a2)), (2, .long 0), (4, .long 3)]) (st2 := [.long 0, .long (Int32.toInt64 a2)]) jF_232_1 rfl rfl) ?_
          refine Eq.trans (jr_s (pc2 := 3) (lv2 := [(0, .long (Int32.toInt64 a2)), (2, .long 0), (4, .long 3)]) (st2 := [.int (lg_cmp (Int32.toInt64 a2) 0)]) jF_232_2 rfl rfl) ?_
          refine Eq.trans (jr_if0 jF_232_3 (jkl_lt_ge (show (0 : Int64).toInt ≤ ((Int32.toInt64 a2) : Int64).toInt by rw [Int32.toInt_toInt64, show (0 : Int64).toInt = 0 from by decide]; omega))) ?_
          refine Eq.trans (jr_s (pc2 := 7) (lv2 := [(0, .long (Int32.toInt64 a2)), (2, .long 0), (4, .long 3)]) (st2 := [.long (Int32.toInt64 a2)]) jF_232_6 rfl rfl) ?_
          refine Eq.trans (jr_s (pc2 := 9) (lv2 := [(0, .long (Int32.toInt64 a2)), (2, .long 0), (4, .long 3)]) (st2 := [.long 3, .long (Int32.toInt64 a2)]) jF_232_7 rfl rfl) ?_
          refine Eq.trans (jr_s (pc2 := 10) (lv2 := [(0, .long (Int32.toInt64 a2)), (2, .long 0), (4, .long 3)]) (st2 := [.int (lg_cmp (Int32.toInt64 a2) 3)]) jF_232_9 rfl rfl) ?_
          refine Eq.trans (jr_if1 jF_232_10 (jkl_gt_gt (show (3 : Int64).toInt < ((Int32.toInt64 a2) : Int64).toInt by rw [Int32.toInt_toInt64, show (3 : Int64).toInt = 3 from by decide]; omega))) ?_
          refine Eq.trans (jr_s (pc2 := 18) (lv2 := [(0, .long (Int32.toInt64 a2)), (2, .long 0), (4, .long 3)]) (st2 := [.int 0]) jF_232_17 rfl rfl) ?_
          exact jr_ri jF_232_18 rfl
        refine Eq.trans (jr_if0 jF_294_9 (by decide +kernel)) ?_
        refine Eq.trans (jr_s (pc2 := 13) (lv2 := [(0, .ref 117), (1, .int 1), (2, .int a2)]) (st2 := [.int (-1)]) jF_294_12 rfl rfl) ?_
        exact jr_ri jF_294_13 rfl
