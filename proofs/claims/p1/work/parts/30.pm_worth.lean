set_option maxHeartbeats 8000000 in
set_option maxRecDepth 100000 in
theorem pm_worth_0 (a2 : Int32) : PM 154 311 [.int 0, .int a2] := by
  have ub_a2 := Int32.toInt_lt a2
  have lb_a2 := Int32.le_toInt a2
  rcases j_ilt a2.toInt 0 with h_a2_0 | h_a2_0
  · refine ⟨60000, 60000, (-1), jh2, jh2, ?_, ?_, by decide +kernel⟩
    · refine Eq.trans (jr_s (pc2 := 1) (lv2 := [(0, .ref 9), (1, .int 0), (2, .int a2)]) (st2 := [.int 0]) jF_154_0 rfl rfl) ?_
      refine Eq.trans (jr_if1 jF_154_1 (by decide +kernel)) ?_
      refine Eq.trans (jr_s (pc2 := 12) (lv2 := [(0, .ref 9), (1, .int 0), (2, .int a2)]) (st2 := [.ref 9]) jF_154_11 rfl rfl) ?_
      refine Eq.trans (jr_gf (v := .ref 70) jF_154_12 (by decide +kernel)) ?_
      refine Eq.trans (jr_s (pc2 := 16) (lv2 := [(3, .ref 70), (0, .ref 9), (1, .int 0), (2, .int a2)]) (st2 := []) jF_154_15 rfl rfl) ?_
      refine Eq.trans (jr_s (pc2 := 17) (lv2 := [(3, .ref 70), (0, .ref 9), (1, .int 0), (2, .int a2)]) (st2 := [.ref 9]) jF_154_16 rfl rfl) ?_
      refine Eq.trans (jr_gf (v := .ref 20) jF_154_17 (by decide +kernel)) ?_
      refine Eq.trans (jr_s (pc2 := 21) (lv2 := [(3, .ref 70), (0, .ref 9), (1, .int 0), (2, .int a2)]) (st2 := [.int a2, .ref 20]) jF_154_20 rfl rfl) ?_
      refine Eq.trans (jr_s (pc2 := 22) (lv2 := [(3, .ref 70), (0, .ref 9), (1, .int 0), (2, .int a2)]) (st2 := [.ref 70, .int a2, .ref 20]) jF_154_21 rfl rfl) ?_
      refine Eq.trans (jr_gf (v := .long 0) jF_154_22 (by decide +kernel)) ?_
      refine Eq.trans (jr_cV (a := 20) (as := [.int a2, .long 0]) (rest := []) (v := some (.int (-1))) (hp2 := jh2) (fr2 := 499) (lo2 := 19975) jF_154_25 (by decide +kernel) rfl (show j_cnd 500 20000 499 19975 6 _ _ = true from rfl) ?_) ?_
      · refine Eq.trans (jr_s (pc2 := 1) (lv2 := [(0, .ref 20), (1, .int a2), (2, .long 0)]) (st2 := [.int a2]) jF_155_0 rfl rfl) ?_
        refine Eq.trans (jr_if1 jF_155_1 (jk_lt_lt (show (a2 : Int32).toInt < (0 : Int32).toInt by rw [show (0 : Int32).toInt = 0 from by decide]; omega))) ?_
        refine Eq.trans (jr_s (pc2 := 13) (lv2 := [(0, .ref 20), (1, .int a2), (2, .long 0)]) (st2 := [.int (-1)]) jF_155_12 rfl rfl) ?_
        exact jr_ri jF_155_13 rfl
      exact jr_ri jF_154_28 rfl
    · refine Eq.trans (jr_s (pc2 := 1) (lv2 := [(0, .ref 117), (1, .int 0), (2, .int a2)]) (st2 := [.ref 117]) jF_311_0 rfl rfl) ?_
      refine Eq.trans (jr_s (pc2 := 2) (lv2 := [(0, .ref 117), (1, .int 0), (2, .int a2)]) (st2 := [.int a2, .ref 117]) jF_311_1 rfl rfl) ?_
      refine Eq.trans (jr_cV (a := 117) (as := [.int a2]) (rest := []) (v := some (.int 0)) (hp2 := jh2) (fr2 := 499) (lo2 := 19979) jF_311_2 (by decide +kernel) rfl (show j_cnd 500 20000 499 19979 2 _ _ = true from rfl) ?_) ?_
      · refine Eq.trans (jr_s (pc2 := 1) (lv2 := [(0, .ref 117), (1, .int a2)]) (st2 := [.int a2]) jF_312_0 rfl rfl) ?_
        refine Eq.trans (jr_s (pc2 := 2) (lv2 := [(0, .ref 117), (1, .int a2)]) (st2 := [.long (Int32.toInt64 a2)]) jF_312_1 rfl rfl) ?_
        refine Eq.trans (jr_s (pc2 := 3) (lv2 := [(0, .ref 117), (1, .int a2)]) (st2 := [.long 0, .long (Int32.toInt64 a2)]) jF_312_2 rfl rfl) ?_
        refine Eq.trans (jr_s (pc2 := 4) (lv2 := [(0, .ref 117), (1, .int a2)]) (st2 := [.ref 117, .long 0, .long (Int32.toInt64 a2)]) jF_312_3 rfl rfl) ?_
        refine Eq.trans (jr_gf (v := .int 0) jF_312_4 (by decide +kernel)) ?_
        refine Eq.trans (jr_s (pc2 := 8) (lv2 := [(0, .ref 117), (1, .int a2)]) (st2 := [.int 1, .int 0, .long 0, .long (Int32.toInt64 a2)]) jF_312_7 rfl rfl) ?_
        refine Eq.trans (jr_s (pc2 := 9) (lv2 := [(0, .ref 117), (1, .int a2)]) (st2 := [.int (-1), .long 0, .long (Int32.toInt64 a2)]) jF_312_8 rfl rfl) ?_
        refine Eq.trans (jr_s (pc2 := 10) (lv2 := [(0, .ref 117), (1, .int a2)]) (st2 := [.long (-1), .long 0, .long (Int32.toInt64 a2)]) jF_312_9 rfl rfl) ?_
        refine Eq.trans (jr_cS (as := [.long (Int32.toInt64 a2), .long 0, .long (-1)]) (rest := []) (v := some (.int 0)) (hp2 := jh2) (fr2 := 498) (lo2 := 19954) jF_312_10 rfl (show j_cnd 499 19979 498 19954 6 _ _ = true from rfl) ?_) ?_
        · refine Eq.trans (jr_s (pc2 := 1) (lv2 := [(0, .long (Int32.toInt64 a2)), (2, .long 0), (4, .long (-1))]) (st2 := [.long (Int32.toInt64 a2)]) jF_232_0 rfl rfl) ?_
          refine Eq.trans (jr_s (pc2 := 2) (lv2 := [(0, .long (Int32.toInt64 a2)), (2, .long 0), (4, .long (-1))]) (st2 := [.long 0, .long (Int32.toInt64 a2)]) jF_232_1 rfl rfl) ?_
          refine Eq.trans (jr_s (pc2 := 3) (lv2 := [(0, .long (Int32.toInt64 a2)), (2, .long 0), (4, .long (-1))]) (st2 := [.int (lg_cmp (Int32.toInt64 a2) 0)]) jF_232_2 rfl rfl) ?_
          refine Eq.trans (jr_if1 jF_232_3 (jkl_lt_lt (show ((Int32.toInt64 a2) : Int64).toInt < (0 : Int64).toInt by rw [Int32.toInt_toInt64, show (0 : Int64).toInt = 0 from by decide]; omega))) ?_
          refine Eq.trans (jr_s (pc2 := 18) (lv2 := [(0, .long (Int32.toInt64 a2)), (2, .long 0), (4, .long (-1))]) (st2 := [.int 0]) jF_232_17 rfl rfl) ?_
          exact jr_ri jF_232_18 rfl
        exact jr_ri jF_312_13 rfl
      refine Eq.trans (jr_if1 jF_311_5 (by decide +kernel)) ?_
      refine Eq.trans (jr_s (pc2 := 25) (lv2 := [(0, .ref 117), (1, .int 0), (2, .int a2)]) (st2 := [.int (-1)]) jF_311_24 rfl rfl) ?_
      exact jr_ri jF_311_25 rfl
  · refine ⟨60000, 60000, (-1), jh2, jh2, ?_, ?_, by decide +kernel⟩
    · refine Eq.trans (jr_s (pc2 := 1) (lv2 := [(0, .ref 9), (1, .int 0), (2, .int a2)]) (st2 := [.int 0]) jF_154_0 rfl rfl) ?_
      refine Eq.trans (jr_if1 jF_154_1 (by decide +kernel)) ?_
      refine Eq.trans (jr_s (pc2 := 12) (lv2 := [(0, .ref 9), (1, .int 0), (2, .int a2)]) (st2 := [.ref 9]) jF_154_11 rfl rfl) ?_
      refine Eq.trans (jr_gf (v := .ref 70) jF_154_12 (by decide +kernel)) ?_
      refine Eq.trans (jr_s (pc2 := 16) (lv2 := [(3, .ref 70), (0, .ref 9), (1, .int 0), (2, .int a2)]) (st2 := []) jF_154_15 rfl rfl) ?_
      refine Eq.trans (jr_s (pc2 := 17) (lv2 := [(3, .ref 70), (0, .ref 9), (1, .int 0), (2, .int a2)]) (st2 := [.ref 9]) jF_154_16 rfl rfl) ?_
      refine Eq.trans (jr_gf (v := .ref 20) jF_154_17 (by decide +kernel)) ?_
      refine Eq.trans (jr_s (pc2 := 21) (lv2 := [(3, .ref 70), (0, .ref 9), (1, .int 0), (2, .int a2)]) (st2 := [.int a2, .ref 20]) jF_154_20 rfl rfl) ?_
      refine Eq.trans (jr_s (pc2 := 22) (lv2 := [(3, .ref 70), (0, .ref 9), (1, .int 0), (2, .int a2)]) (st2 := [.ref 70, .int a2, .ref 20]) jF_154_21 rfl rfl) ?_
      refine Eq.trans (jr_gf (v := .long 0) jF_154_22 (by decide +kernel)) ?_
      refine Eq.trans (jr_cV (a := 20) (as := [.int a2, .long 0]) (rest := []) (v := some (.int (-1))) (hp2 := jh2) (fr2 := 499) (lo2 := 19975) jF_154_25 (by decide +kernel) rfl (show j_cnd 500 20000 499 19975 6 _ _ = true from rfl) ?_) ?_
      · refine Eq.trans (jr_s (pc2 := 1) (lv2 := [(0, .ref 20), (1, .int a2), (2, .long 0)]) (st2 := [.int a2]) jF_155_0 rfl rfl) ?_
        refine Eq.trans (jr_if0 jF_155_1 (jk_lt_ge (show (0 : Int32).toInt ≤ (a2 : Int32).toInt by rw [show (0 : Int32).toInt = 0 from by decide]; omega))) ?_
        refine Eq.trans (jr_s (pc2 := 5) (lv2 := [(0, .ref 20), (1, .int a2), (2, .long 0)]) (st2 := [.int a2]) jF_155_4 rfl rfl) ?_
        refine Eq.trans (jr_s (pc2 := 6) (lv2 := [(0, .ref 20), (1, .int a2), (2, .long 0)]) (st2 := [.ref 20, .int a2]) jF_155_5 rfl rfl) ?_
        refine Eq.trans (jr_gf (v := .int 0) jF_155_6 (by decide +kernel)) ?_
        refine Eq.trans (jr_ic0 jF_155_9 (jk_lt_ge (show (0 : Int32).toInt ≤ (a2 : Int32).toInt by rw [show (0 : Int32).toInt = 0 from by decide]; omega))) ?_
        refine Eq.trans (jr_s (pc2 := 13) (lv2 := [(0, .ref 20), (1, .int a2), (2, .long 0)]) (st2 := [.int (-1)]) jF_155_12 rfl rfl) ?_
        exact jr_ri jF_155_13 rfl
      exact jr_ri jF_154_28 rfl
    · refine Eq.trans (jr_s (pc2 := 1) (lv2 := [(0, .ref 117), (1, .int 0), (2, .int a2)]) (st2 := [.ref 117]) jF_311_0 rfl rfl) ?_
      refine Eq.trans (jr_s (pc2 := 2) (lv2 := [(0, .ref 117), (1, .int 0), (2, .int a2)]) (st2 := [.int a2, .ref 117]) jF_311_1 rfl rfl) ?_
      refine Eq.trans (jr_cV (a := 117) (as := [.int a2]) (rest := []) (v := some (.int 0)) (hp2 := jh2) (fr2 := 499) (lo2 := 19979) jF_311_2 (by decide +kernel) rfl (show j_cnd 500 20000 499 19979 2 _ _ = true from rfl) ?_) ?_
      · refine Eq.trans (jr_s (pc2 := 1) (lv2 := [(0, .ref 117), (1, .int a2)]) (st2 := [.int a2]) jF_312_0 rfl rfl) ?_
        refine Eq.trans (jr_s (pc2 := 2) (lv2 := [(0, .ref 117), (1, .int a2)]) (st2 := [.long (Int32.toInt64 a2)]) jF_312_1 rfl rfl) ?_
        refine Eq.trans (jr_s (pc2 := 3) (lv2 := [(0, .ref 117), (1, .int a2)]) (st2 := [.long 0, .long (Int32.toInt64 a2)]) jF_312_2 rfl rfl) ?_
        refine Eq.trans (jr_s (pc2 := 4) (lv2 := [(0, .ref 117), (1, .int a2)]) (st2 := [.ref 117, .long 0, .long (Int32.toInt64 a2)]) jF_312_3 rfl rfl) ?_
        refine Eq.trans (jr_gf (v := .int 0) jF_312_4 (by decide +kernel)) ?_
        refine Eq.trans (jr_s (pc2 := 8) (lv2 := [(0, .ref 117), (1, .int a2)]) (st2 := [.int 1, .int 0, .long 0, .long (Int32.toInt64 a2)]) jF_312_7 rfl rfl) ?_
        refine Eq.trans (jr_s (pc2 := 9) (lv2 := [(0, .ref 117), (1, .int a2)]) (st2 := [.int (-1), .long 0, .long (Int32.toInt64 a2)]) jF_312_8 rfl rfl) ?_
        refine Eq.trans (jr_s (pc2 := 10) (lv2 := [(0, .ref 117), (1, .int a2)]) (st2 := [.long (-1), .long 0, .long (Int32.toInt64 a2)]) jF_312_9 rfl rfl) ?_
        refine Eq.trans (jr_cS (as := [.long (Int32.toInt64 a2), .long 0, .long (-1)]) (rest := []) (v := some (.int 0)) (hp2 := jh2) (fr2 := 498) (lo2 := 19954) jF_312_10 rfl (show j_cnd 499 19979 498 19954 6 _ _ = true from rfl) ?_) ?_
        · refine Eq.trans (jr_s (pc2 := 1) (lv2 := [(0, .long (Int32.toInt64 a2)), (2, .long 0), (4, .long (-1))]) (st2 := [.long (Int32.toInt64 a2)]) jF_232_0 rfl rfl) ?_
          refine Eq.trans (jr_s (pc2 := 2) (lv2 := [(0, .long (Int32.toInt64 a2)), (2, .long 0), (4, .long (-1))]) (st2 := [.long 0, .long (Int32.toInt64 a2)]) jF_232_1 rfl rfl) ?_
          refine Eq.trans (jr_s (pc2 := 3) (lv2 := [(0, .long (Int32.toInt64 a2)), (2, .long 0), (4, .long (-1))]) (st2 := [.int (lg_cmp (Int32.toInt64 a2) 0)]) jF_232_2 rfl rfl) ?_
          refine Eq.trans (jr_if0 jF_232_3 (jkl_lt_ge (show (0 : Int64).toInt ≤ ((Int32.toInt64 a2) : Int64).toInt by rw [Int32.toInt_toInt64, show (0 : Int64).toInt = 0 from by decide]; omega))) ?_
          refine Eq.trans (jr_s (pc2 := 7) (lv2 := [(0, .long (Int32.toInt64 a2)), (2, .long 0), (4, .long (-1))]) (st2 := [.long (Int32.toInt64 a2)]) jF_232_6 rfl rfl) ?_
          refine Eq.trans (jr_s (pc2 := 9) (lv2 := [(0, .long (Int32.toInt64 a2)), (2, .long 0), (4, .long (-1))]) (st2 := [.long (-1), .long (Int32.toInt64 a2)]) jF_232_7 rfl rfl) ?_
          refine Eq.trans (jr_s (pc2 := 10) (lv2 := [(0, .long (Int32.toInt64 a2)), (2, .long 0), (4, .long (-1))]) (st2 := [.int (lg_cmp (Int32.toInt64 a2) (-1))]) jF_232_9 rfl rfl) ?_
          refine Eq.trans (jr_if1 jF_232_10 (jkl_gt_gt (show ((-1) : Int64).toInt < ((Int32.toInt64 a2) : Int64).toInt by rw [Int32.toInt_toInt64, show ((-1) : Int64).toInt = (-1) from by decide]; omega))) ?_
          refine Eq.trans (jr_s (pc2 := 18) (lv2 := [(0, .long (Int32.toInt64 a2)), (2, .long 0), (4, .long (-1))]) (st2 := [.int 0]) jF_232_17 rfl rfl) ?_
          exact jr_ri jF_232_18 rfl
        exact jr_ri jF_312_13 rfl
      refine Eq.trans (jr_if1 jF_311_5 (by decide +kernel)) ?_
      refine Eq.trans (jr_s (pc2 := 25) (lv2 := [(0, .ref 117), (1, .int 0), (2, .int a2)]) (st2 := [.int (-1)]) jF_311_24 rfl rfl) ?_
      exact jr_ri jF_311_25 rfl
set_option maxHeartbeats 8000000 in
set_option maxRecDepth 100000 in
theorem pm_worth_1 (a2 : Int32) : PM 154 311 [.int 1, .int a2] := by
  have ub_a2 := Int32.toInt_lt a2
  have lb_a2 := Int32.le_toInt a2
  rcases j_ilt a2.toInt 0 with h_a2_0 | h_a2_0
  · refine ⟨60000, 60000, (-1), jh2, jh2, ?_, ?_, by decide +kernel⟩
    · refine Eq.trans (jr_s (pc2 := 1) (lv2 := [(0, .ref 9), (1, .int 1), (2, .int a2)]) (st2 := [.int 1]) jF_154_0 rfl rfl) ?_
      refine Eq.trans (jr_if0 jF_154_1 (by decide +kernel)) ?_
      refine Eq.trans (jr_s (pc2 := 5) (lv2 := [(0, .ref 9), (1, .int 1), (2, .int a2)]) (st2 := [.ref 9]) jF_154_4 rfl rfl) ?_
      refine Eq.trans (jr_gf (v := .ref 75) jF_154_5 (by decide +kernel)) ?_
      refine Eq.trans (jr_s (pc2 := 15) (lv2 := [(0, .ref 9), (1, .int 1), (2, .int a2)]) (st2 := [.ref 75]) jF_154_8 rfl rfl) ?_
      refine Eq.trans (jr_s (pc2 := 16) (lv2 := [(3, .ref 75), (0, .ref 9), (1, .int 1), (2, .int a2)]) (st2 := []) jF_154_15 rfl rfl) ?_
      refine Eq.trans (jr_s (pc2 := 17) (lv2 := [(3, .ref 75), (0, .ref 9), (1, .int 1), (2, .int a2)]) (st2 := [.ref 9]) jF_154_16 rfl rfl) ?_
      refine Eq.trans (jr_gf (v := .ref 20) jF_154_17 (by decide +kernel)) ?_
      refine Eq.trans (jr_s (pc2 := 21) (lv2 := [(3, .ref 75), (0, .ref 9), (1, .int 1), (2, .int a2)]) (st2 := [.int a2, .ref 20]) jF_154_20 rfl rfl) ?_
      refine Eq.trans (jr_s (pc2 := 22) (lv2 := [(3, .ref 75), (0, .ref 9), (1, .int 1), (2, .int a2)]) (st2 := [.ref 75, .int a2, .ref 20]) jF_154_21 rfl rfl) ?_
      refine Eq.trans (jr_gf (v := .long 0) jF_154_22 (by decide +kernel)) ?_
      refine Eq.trans (jr_cV (a := 20) (as := [.int a2, .long 0]) (rest := []) (v := some (.int (-1))) (hp2 := jh2) (fr2 := 499) (lo2 := 19975) jF_154_25 (by decide +kernel) rfl (show j_cnd 500 20000 499 19975 6 _ _ = true from rfl) ?_) ?_
      · refine Eq.trans (jr_s (pc2 := 1) (lv2 := [(0, .ref 20), (1, .int a2), (2, .long 0)]) (st2 := [.int a2]) jF_155_0 rfl rfl) ?_
        refine Eq.trans (jr_if1 jF_155_1 (jk_lt_lt (show (a2 : Int32).toInt < (0 : Int32).toInt by rw [show (0 : Int32).toInt = 0 from by decide]; omega))) ?_
        refine Eq.trans (jr_s (pc2 := 13) (lv2 := [(0, .ref 20), (1, .int a2), (2, .long 0)]) (st2 := [.int (-1)]) jF_155_12 rfl rfl) ?_
        exact jr_ri jF_155_13 rfl
      exact jr_ri jF_154_28 rfl
    · refine Eq.trans (jr_s (pc2 := 1) (lv2 := [(0, .ref 117), (1, .int 1), (2, .int a2)]) (st2 := [.ref 117]) jF_311_0 rfl rfl) ?_
      refine Eq.trans (jr_s (pc2 := 2) (lv2 := [(0, .ref 117), (1, .int 1), (2, .int a2)]) (st2 := [.int a2, .ref 117]) jF_311_1 rfl rfl) ?_
      refine Eq.trans (jr_cV (a := 117) (as := [.int a2]) (rest := []) (v := some (.int 0)) (hp2 := jh2) (fr2 := 499) (lo2 := 19979) jF_311_2 (by decide +kernel) rfl (show j_cnd 500 20000 499 19979 2 _ _ = true from rfl) ?_) ?_
      · refine Eq.trans (jr_s (pc2 := 1) (lv2 := [(0, .ref 117), (1, .int a2)]) (st2 := [.int a2]) jF_312_0 rfl rfl) ?_
        refine Eq.trans (jr_s (pc2 := 2) (lv2 := [(0, .ref 117), (1, .int a2)]) (st2 := [.long (Int32.toInt64 a2)]) jF_312_1 rfl rfl) ?_
        refine Eq.trans (jr_s (pc2 := 3) (lv2 := [(0, .ref 117), (1, .int a2)]) (st2 := [.long 0, .long (Int32.toInt64 a2)]) jF_312_2 rfl rfl) ?_
        refine Eq.trans (jr_s (pc2 := 4) (lv2 := [(0, .ref 117), (1, .int a2)]) (st2 := [.ref 117, .long 0, .long (Int32.toInt64 a2)]) jF_312_3 rfl rfl) ?_
        refine Eq.trans (jr_gf (v := .int 0) jF_312_4 (by decide +kernel)) ?_
        refine Eq.trans (jr_s (pc2 := 8) (lv2 := [(0, .ref 117), (1, .int a2)]) (st2 := [.int 1, .int 0, .long 0, .long (Int32.toInt64 a2)]) jF_312_7 rfl rfl) ?_
        refine Eq.trans (jr_s (pc2 := 9) (lv2 := [(0, .ref 117), (1, .int a2)]) (st2 := [.int (-1), .long 0, .long (Int32.toInt64 a2)]) jF_312_8 rfl rfl) ?_
        refine Eq.trans (jr_s (pc2 := 10) (lv2 := [(0, .ref 117), (1, .int a2)]) (st2 := [.long (-1), .long 0, .long (Int32.toInt64 a2)]) jF_312_9 rfl rfl) ?_
        refine Eq.trans (jr_cS (as := [.long (Int32.toInt64 a2), .long 0, .long (-1)]) (rest := []) (v := some (.int 0)) (hp2 := jh2) (fr2 := 498) (lo2 := 19954) jF_312_10 rfl (show j_cnd 499 19979 498 19954 6 _ _ = true from rfl) ?_) ?_
        · refine Eq.trans (jr_s (pc2 := 1) (lv2 := [(0, .long (Int32.toInt64 a2)), (2, .long 0), (4, .long (-1))]) (st2 := [.long (Int32.toInt64 a2)]) jF_232_0 rfl rfl) ?_
          refine Eq.trans (jr_s (pc2 := 2) (lv2 := [(0, .long (Int32.toInt64 a2)), (2, .long 0), (4, .long (-1))]) (st2 := [.long 0, .long (Int32.toInt64 a2)]) jF_232_1 rfl rfl) ?_
          refine Eq.trans (jr_s (pc2 := 3) (lv2 := [(0, .long (Int32.toInt64 a2)), (2, .long 0), (4, .long (-1))]) (st2 := [.int (lg_cmp (Int32.toInt64 a2) 0)]) jF_232_2 rfl rfl) ?_
          refine Eq.trans (jr_if1 jF_232_3 (jkl_lt_lt (show ((Int32.toInt64 a2) : Int64).toInt < (0 : Int64).toInt by rw [Int32.toInt_toInt64, show (0 : Int64).toInt = 0 from by decide]; omega))) ?_
          refine Eq.trans (jr_s (pc2 := 18) (lv2 := [(0, .long (Int32.toInt64 a2)), (2, .long 0), (4, .long (-1))]) (st2 := [.int 0]) jF_232_17 rfl rfl) ?_
          exact jr_ri jF_232_18 rfl
        exact jr_ri jF_312_13 rfl
      refine Eq.trans (jr_if1 jF_311_5 (by decide +kernel)) ?_
      refine Eq.trans (jr_s (pc2 := 25) (lv2 := [(0, .ref 117), (1, .int 1), (2, .int a2)]) (st2 := [.int (-1)]) jF_311_24 rfl rfl) ?_
      exact jr_ri jF_311_25 rfl
  · refine ⟨60000, 60000, (-1), jh2, jh2, ?_, ?_, by decide +kernel⟩
    · refine Eq.trans (jr_s (pc2 := 1) (lv2 := [(0, .ref 9), (1, .int 1), (2, .int a2)]) (st2 := [.int 1]) jF_154_0 rfl rfl) ?_
      refine Eq.trans (jr_if0 jF_154_1 (by decide +kernel)) ?_
      refine Eq.trans (jr_s (pc2 := 5) (lv2 := [(0, .ref 9), (1, .int 1), (2, .int a2)]) (st2 := [.ref 9]) jF_154_4 rfl rfl) ?_
      refine Eq.trans (jr_gf (v := .ref 75) jF_154_5 (by decide +kernel)) ?_
      refine Eq.trans (jr_s (pc2 := 15) (lv2 := [(0, .ref 9), (1, .int 1), (2, .int a2)]) (st2 := [.ref 75]) jF_154_8 rfl rfl) ?_
      refine Eq.trans (jr_s (pc2 := 16) (lv2 := [(3, .ref 75), (0, .ref 9), (1, .int 1), (2, .int a2)]) (st2 := []) jF_154_15 rfl rfl) ?_
      refine Eq.trans (jr_s (pc2 := 17) (lv2 := [(3, .ref 75), (0, .ref 9), (1, .int 1), (2, .int a2)]) (st2 := [.ref 9]) jF_154_16 rfl rfl) ?_
      refine Eq.trans (jr_gf (v := .ref 20) jF_154_17 (by decide +kernel)) ?_
      refine Eq.trans (jr_s (pc2 := 21) (lv2 := [(3, .ref 75), (0, .ref 9), (1, .int 1), (2, .int a2)]) (st2 := [.int a2, .ref 20]) jF_154_20 rfl rfl) ?_
      refine Eq.trans (jr_s (pc2 := 22) (lv2 := [(3, .ref 75), (0, .ref 9), (1, .int 1), (2, .int a2)]) (st2 := [.ref 75, .int a2, .ref 20]) jF_154_21 rfl rfl) ?_
      refine Eq.trans (jr_gf (v := .long 0) jF_154_22 (by decide +kernel)) ?_
      refine Eq.trans (jr_cV (a := 20) (as := [.int a2, .long 0]) (rest := []) (v := some (.int (-1))) (hp2 := jh2) (fr2 := 499) (lo2 := 19975) jF_154_25 (by decide +kernel) rfl (show j_cnd 500 20000 499 19975 6 _ _ = true from rfl) ?_) ?_
      · refine Eq.trans (jr_s (pc2 := 1) (lv2 := [(0, .ref 20), (1, .int a2), (2, .long 0)]) (st2 := [.int a2]) jF_155_0 rfl rfl) ?_
        refine Eq.trans (jr_if0 jF_155_1 (jk_lt_ge (show (0 : Int32).toInt ≤ (a2 : Int32).toInt by rw [show (0 : Int32).toInt = 0 from by decide]; omega))) ?_
        refine Eq.trans (jr_s (pc2 := 5) (lv2 := [(0, .ref 20), (1, .int a2), (2, .long 0)]) (st2 := [.int a2]) jF_155_4 rfl rfl) ?_
        refine Eq.trans (jr_s (pc2 := 6) (lv2 := [(0, .ref 20), (1, .int a2), (2, .long 0)]) (st2 := [.ref 20, .int a2]) jF_155_5 rfl rfl) ?_
        refine Eq.trans (jr_gf (v := .int 0) jF_155_6 (by decide +kernel)) ?_
        refine Eq.trans (jr_ic0 jF_155_9 (jk_lt_ge (show (0 : Int32).toInt ≤ (a2 : Int32).toInt by rw [show (0 : Int32).toInt = 0 from by decide]; omega))) ?_
        refine Eq.trans (jr_s (pc2 := 13) (lv2 := [(0, .ref 20), (1, .int a2), (2, .long 0)]) (st2 := [.int (-1)]) jF_155_12 rfl rfl) ?_
        exact jr_ri jF_155_13 rfl
      exact jr_ri jF_154_28 rfl
    · refine Eq.trans (jr_s (pc2 := 1) (lv2 := [(0, .ref 117), (1, .int 1), (2, .int a2)]) (st2 := [.ref 117]) jF_311_0 rfl rfl) ?_
      refine Eq.trans (jr_s (pc2 := 2) (lv2 := [(0, .ref 117), (1, .int 1), (2, .int a2)]) (st2 := [.int a2, .ref 117]) jF_311_1 rfl rfl) ?_
      refine Eq.trans (jr_cV (a := 117) (as := [.int a2]) (rest := []) (v := some (.int 0)) (hp2 := jh2) (fr2 := 499) (lo2 := 19979) jF_311_2 (by decide +kernel) rfl (show j_cnd 500 20000 499 19979 2 _ _ = true from rfl) ?_) ?_
      · refine Eq.trans (jr_s (pc2 := 1) (lv2 := [(0, .ref 117), (1, .int a2)]) (st2 := [.int a2]) jF_312_0 rfl rfl) ?_
        refine Eq.trans (jr_s (pc2 := 2) (lv2 := [(0, .ref 117), (1, .int a2)]) (st2 := [.long (Int32.toInt64 a2)]) jF_312_1 rfl rfl) ?_
        refine Eq.trans (jr_s (pc2 := 3) (lv2 := [(0, .ref 117), (1, .int a2)]) (st2 := [.long 0, .long (Int32.toInt64 a2)]) jF_312_2 rfl rfl) ?_
        refine Eq.trans (jr_s (pc2 := 4) (lv2 := [(0, .ref 117), (1, .int a2)]) (st2 := [.ref 117, .long 0, .long (Int32.toInt64 a2)]) jF_312_3 rfl rfl) ?_
        refine Eq.trans (jr_gf (v := .int 0) jF_312_4 (by decide +kernel)) ?_
        refine Eq.trans (jr_s (pc2 := 8) (lv2 := [(0, .ref 117), (1, .int a2)]) (st2 := [.int 1, .int 0, .long 0, .long (Int32.toInt64 a2)]) jF_312_7 rfl rfl) ?_
        refine Eq.trans (jr_s (pc2 := 9) (lv2 := [(0, .ref 117), (1, .int a2)]) (st2 := [.int (-1), .long 0, .long (Int32.toInt64 a2)]) jF_312_8 rfl rfl) ?_
        refine Eq.trans (jr_s (pc2 := 10) (lv2 := [(0, .ref 117), (1, .int a2)]) (st2 := [.long (-1), .long 0, .long (Int32.toInt64 a2)]) jF_312_9 rfl rfl) ?_
        refine Eq.trans (jr_cS (as := [.long (Int32.toInt64 a2), .long 0, .long (-1)]) (rest := []) (v := some (.int 0)) (hp2 := jh2) (fr2 := 498) (lo2 := 19954) jF_312_10 rfl (show j_cnd 499 19979 498 19954 6 _ _ = true from rfl) ?_) ?_
        · refine Eq.trans (jr_s (pc2 := 1) (lv2 := [(0, .long (Int32.toInt64 a2)), (2, .long 0), (4, .long (-1))]) (st2 := [.long (Int32.toInt64 a2)]) jF_232_0 rfl rfl) ?_
          refine Eq.trans (jr_s (pc2 := 2) (lv2 := [(0, .long (Int32.toInt64 a2)), (2, .long 0), (4, .long (-1))]) (st2 := [.long 0, .long (Int32.toInt64 a2)]) jF_232_1 rfl rfl) ?_
          refine Eq.trans (jr_s (pc2 := 3) (lv2 := [(0, .long (Int32.toInt64 a2)), (2, .long 0), (4, .long (-1))]) (st2 := [.int (lg_cmp (Int32.toInt64 a2) 0)]) jF_232_2 rfl rfl) ?_
          refine Eq.trans (jr_if0 jF_232_3 (jkl_lt_ge (show (0 : Int64).toInt ≤ ((Int32.toInt64 a2) : Int64).toInt by rw [Int32.toInt_toInt64, show (0 : Int64).toInt = 0 from by decide]; omega))) ?_
          refine Eq.trans (jr_s (pc2 := 7) (lv2 := [(0, .long (Int32.toInt64 a2)), (2, .long 0), (4, .long (-1))]) (st2 := [.long (Int32.toInt64 a2)]) jF_232_6 rfl rfl) ?_
          refine Eq.trans (jr_s (pc2 := 9) (lv2 := [(0, .long (Int32.toInt64 a2)), (2, .long 0), (4, .long (-1))]) (st2 := [.long (-1), .long (Int32.toInt64 a2)]) jF_232_7 rfl rfl) ?_
          refine Eq.trans (jr_s (pc2 := 10) (lv2 := [(0, .long (Int32.toInt64 a2)), (2, .long 0), (4, .long (-1))]) (st2 := [.int (lg_cmp (Int32.toInt64 a2) (-1))]) jF_232_9 rfl rfl) ?_
          refine Eq.trans (jr_if1 jF_232_10 (jkl_gt_gt (show ((-1) : Int64).toInt < ((Int32.toInt64 a2) : Int64).toInt by rw [Int32.toInt_toInt64, show ((-1) : Int64).toInt = (-1) from by decide]; omega))) ?_
          refine Eq.trans (jr_s (pc2 := 18) (lv2 := [(0, .long (Int32.toInt64 a2)), (2, .long 0), (4, .long (-1))]) (st2 := [.int 0]) jF_232_17 rfl rfl) ?_
          exact jr_ri jF_232_18 rfl
        exact jr_ri jF_312_13 rfl
      refine Eq.trans (jr_if1 jF_311_5 (by decide +kernel)) ?_
      refine Eq.trans (jr_s (pc2 := 25) (lv2 := [(0, .ref 117), (1, .int 1), (2, .int a2)]) (st2 := [.int (-1)]) jF_311_24 rfl rfl) ?_
      exact jr_ri jF_311_25 rfl
