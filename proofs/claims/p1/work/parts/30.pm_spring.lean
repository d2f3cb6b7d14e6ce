set_option maxHeartbeats 8000000 in
set_option maxRecDepth 100000 in
theorem pm_spring (a1 : Int32) : PM 163 319 [.int a1] := by
  have ub_a1 := Int32.toInt_lt a1
  have lb_a1 := Int32.le_toInt a1
  rcases j_ilt a1.toInt 1 with h_a1_1 | h_a1_1
  · refine ⟨60000, 60000, (-1), (j_hp (JR 25 25 0 (lv_args 0 [.ref 9, .int 2]) [] jh2 0 0 499 19979)), (j_stf (j_hp (JR 25 25 0 (lv_args 0 [.ref 9, .int 2]) [] jh2 0 0 499 19979)) 119 2 (.int 1)), ?_, ?_, by decide +kernel⟩
    · refine Eq.trans (jr_s (pc2 := 1) (lv2 := [(0, .ref 9), (1, .int a1)]) (st2 := [.int a1]) jF_163_0 rfl rfl) ?_
      refine Eq.trans (jr_s (pc2 := 2) (lv2 := [(0, .ref 9), (1, .int a1)]) (st2 := [.int 1, .int a1]) jF_163_1 rfl rfl) ?_
      refine Eq.trans (jr_ic1 jF_163_2 (jk_lt_lt (show (a1 : Int32).toInt < (1 : Int32).toInt by rw [show (1 : Int32).toInt = 1 from by decide]; omega))) ?_
      refine Eq.trans (jr_s (pc2 := 12) (lv2 := [(0, .ref 9), (1, .int a1)]) (st2 := [.ref 9]) jF_163_11 rfl rfl) ?_
      refine Eq.trans (jr_s (pc2 := 13) (lv2 := [(0, .ref 9), (1, .int a1)]) (st2 := [.int 2, .ref 9]) jF_163_12 rfl rfl) ?_
      refine Eq.trans (jr_cV (a := 9) (as := [.int 2]) (rest := []) (v := some (.int (-1))) (hp2 := (j_hp (JR 25 25 0 (lv_args 0 [.ref 9, .int 2]) [] jh2 0 0 499 19979))) (fr2 := 499) (lo2 := 19979) jF_163_13 (by decide +kernel) rfl (show j_cnd 500 20000 499 19979 2 _ _ = true from rfl) ?_) ?_
      · exact jr_upl (jr_cl (v := some (.int (-1))) (by decide +kernel)) (by omega)
      exact jr_ri jF_163_16 rfl
    · refine Eq.trans (jr_s (pc2 := 1) (lv2 := [(0, .ref 117), (1, .int a1)]) (st2 := [.int a1]) jF_319_0 rfl rfl) ?_
      refine Eq.trans (jr_s (pc2 := 2) (lv2 := [(0, .ref 117), (1, .int a1)]) (st2 := [.long (Int32.toInt64 a1)]) jF_319_1 rfl rfl) ?_
      refine Eq.trans (jr_s (pc2 := 3) (lv2 := [(0, .ref 117), (1, .int a1)]) (st2 := [.long 1, .long (Int32.toInt64 a1)]) jF_319_2 rfl rfl) ?_
      refine Eq.trans (jr_s (pc2 := 6) (lv2 := [(0, .ref 117), (1, .int a1)]) (st2 := [.long 20, .long 1, .long (Int32.toInt64 a1)]) jF_319_3 rfl rfl) ?_
      refine Eq.trans (jr_cS (as := [.long (Int32.toInt64 a1), .long 1, .long 20]) (rest := []) (v := some (.int 0)) (hp2 := (j_hp (JR 25 25 0 (lv_args 0 [.ref 9, .int 2]) [] jh2 0 0 499 19979))) (fr2 := 499) (lo2 := 19975) jF_319_6 rfl (show j_cnd 500 20000 499 19975 6 _ _ = true from rfl) ?_) ?_
      · refine Eq.trans (jr_s (pc2 := 1) (lv2 := [(0, .long (Int32.toInt64 a1)), (2, .long 1), (4, .long 20)]) (st2 := [.long (Int32.toInt64 a1)]) jF_232_0 rfl rfl) ?_
        refine Eq.trans (jr_s (pc2 := 2) (lv2 := [(0, .long (Int32.toInt64 a1)), (2, .long 1), (4, .long 20)]) (st2 := [.long 1, .long (Int32.toInt64 a1)]) jF_232_1 rfl rfl) ?_
        refine Eq.trans (jr_s (pc2 := 3) (lv2 := [(0, .long (Int32.toInt64 a1)), (2, .long 1), (4, .long 20)]) (st2 := [.int (lg_cmp (Int32.toInt64 a1) 1)]) jF_232_2 rfl rfl) ?_
        refine Eq.trans (jr_if1 jF_232_3 (jkl_lt_lt (show ((Int32.toInt64 a1) : Int64).toInt < (1 : Int64).toInt by rw [Int32.toInt_toInt64, show (1 : Int64).toInt = 1 from by decide]; omega))) ?_
        refine Eq.trans (jr_s (pc2 := 18) (lv2 := [(0, .long (Int32.toInt64 a1)), (2, .long 1), (4, .long 20)]) (st2 := [.int 0]) jF_232_17 rfl rfl) ?_
        exact jr_ri jF_232_18 rfl
      refine Eq.trans (jr_if0 jF_319_9 (by decide +kernel)) ?_
      refine Eq.trans (jr_s (pc2 := 13) (lv2 := [(0, .ref 117), (1, .int a1)]) (st2 := [.ref 117]) jF_319_12 rfl rfl) ?_
      refine Eq.trans (jr_gf (v := .ref 119) jF_319_13 (by decide +kernel)) ?_
      refine Eq.trans (jr_s (pc2 := 17) (lv2 := [(0, .ref 117), (1, .int a1)]) (st2 := [.int 2, .ref 119]) jF_319_16 rfl rfl) ?_
      refine Eq.trans (jr_s (pc2 := 18) (lv2 := [(0, .ref 117), (1, .int a1)]) (st2 := [.int 2, .ref 119, .int 2, .ref 119]) jF_319_17 rfl rfl) ?_
      refine Eq.trans (jr_ldi (v := .int 0) jF_319_18 (by decide +kernel)) ?_
      refine Eq.trans (jr_s (pc2 := 20) (lv2 := [(0, .ref 117), (1, .int a1)]) (st2 := [.int 1, .int 0, .int 2, .ref 119]) jF_319_19 rfl rfl) ?_
      refine Eq.trans (jr_s (pc2 := 21) (lv2 := [(0, .ref 117), (1, .int a1)]) (st2 := [.int 1, .int 2, .ref 119]) jF_319_20 rfl rfl) ?_
      refine Eq.trans (jr_sti (q := 2) jF_319_21 (by decide +kernel) (by decide +kernel)) ?_
      refine Eq.trans (jr_s (pc2 := 23) (lv2 := [(0, .ref 117), (1, .int a1)]) (st2 := [.int (-1)]) jF_319_22 rfl rfl) ?_
      exact jr_ri jF_319_23 rfl
  · rcases j_ilt a1.toInt 21 with h_a1_21 | h_a1_21
    · refine ⟨60000, 60000, 0, (j_hp (JR 4446 161 0 (lv_args 0 [.ref 9]) [] jh2 0 0 499 19978)), (j_hp (JR 2035 317 0 (lv_args 0 [.ref 117]) [] (j_hp (JR 4446 161 0 (lv_args 0 [.ref 9]) [] jh2 0 0 499 19978)) 0 0 499 19976)), ?_, ?_, by decide +kernel⟩
      · refine Eq.trans (jr_s (pc2 := 1) (lv2 := [(0, .ref 9), (1, .int a1)]) (st2 := [.int a1]) jF_163_0 rfl rfl) ?_
        refine Eq.trans (jr_s (pc2 := 2) (lv2 := [(0, .ref 9), (1, .int a1)]) (st2 := [.int 1, .int a1]) jF_163_1 rfl rfl) ?_
        refine Eq.trans (jr_ic0 jF_163_2 (jk_lt_ge (show (1 : Int32).toInt ≤ (a1 : Int32).toInt by rw [show (1 : Int32).toInt = 1 from by decide]; omega))) ?_
        refine Eq.trans (jr_s (pc2 := 6) (lv2 := [(0, .ref 9), (1, .int a1)]) (st2 := [.int a1]) jF_163_5 rfl rfl) ?_
        refine Eq.trans (jr_s (pc2 := 8) (lv2 := [(0, .ref 9), (1, .int a1)]) (st2 := [.int 20, .int a1]) jF_163_6 rfl rfl) ?_
        refine Eq.trans (jr_ic1 jF_163_8 (jk_le_le (show (a1 : Int32).toInt ≤ (20 : Int32).toInt by rw [show (20 : Int32).toInt = 20 from by decide]; omega))) ?_
        refine Eq.trans (jr_s (pc2 := 18) (lv2 := [(0, .ref 9), (1, .int a1)]) (st2 := [.int 0]) jF_163_17 rfl rfl) ?_
        refine Eq.trans (jr_s (pc2 := 19) (lv2 := [(2, .int 0), (0, .ref 9), (1, .int a1)]) (st2 := []) jF_163_18 rfl rfl) ?_
        refine Eq.trans (jr_s (pc2 := 20) (lv2 := [(2, .int 0), (0, .ref 9), (1, .int a1)]) (st2 := [.int 0]) jF_163_19 rfl rfl) ?_
        refine Eq.trans (jr_s (pc2 := 21) (lv2 := [(2, .int 0), (0, .ref 9), (1, .int a1)]) (st2 := [.int a1, .int 0]) jF_163_20 rfl rfl) ?_
        refine Eq.trans (jr_ic0 jF_163_21 (jk_ge_lt (show (0 : Int32).toInt < (a1 : Int32).toInt by rw [show (0 : Int32).toInt = 0 from by decide]; omega))) ?_
        refine Eq.trans (jr_s (pc2 := 25) (lv2 := [(2, .int 0), (0, .ref 9), (1, .int a1)]) (st2 := [.ref 9]) jF_163_24 rfl rfl) ?_
        refine Eq.trans (jr_cV (a := 9) (as := []) (rest := []) (v := some (.int 0)) (hp2 := (j_hp (JR 4446 161 0 (lv_args 0 [.ref 9]) [] jh2 0 0 499 19978))) (fr2 := 499) (lo2 := 19978) jF_163_25 (by decide +kernel) rfl (show j_cnd 500 20000 499 19978 3 _ _ = true from rfl) ?_) ?_
        · exact jr_upl (jr_cl (v := some (.int 0)) (by decide +kernel)) (by omega)
        refine Eq.trans (jr_if0 jF_163_28 (by decide +kernel)) ?_
        refine Eq.trans (jr_s (pc2 := 32) (lv2 := [(2, .int 0), (0, .ref 9), (1, .int a1)]) (st2 := [.int 0]) jF_163_31 rfl rfl) ?_
        exact jr_ri jF_163_32 rfl
      · refine Eq.trans (jr_s (pc2 := 1) (lv2 := [(0, .ref 117), (1, .int a1)]) (st2 := [.int a1]) jF_319_0 rfl rfl) ?_
        refine Eq.trans (jr_s (pc2 := 2) (lv2 := [(0, .ref 117), (1, .int a1)]) (st2 := [.long (Int32.toInt64 a1)]) jF_319_1 rfl rfl) ?_
        refine Eq.trans (jr_s (pc2 := 3) (lv2 := [(0, .ref 117), (1, .int a1)]) (st2 := [.long 1, .long (Int32.toInt64 a1)]) jF_319_2 rfl rfl) ?_
        refine Eq.trans (jr_s (pc2 := 6) (lv2 := [(0, .ref 117), (1, .int a1)]) (st2 := [.long 20, .long 1, .long (Int32.toInt64 a1)]) jF_319_3 rfl rfl) ?_
        refine Eq.trans (jr_cS (as := [.long (Int32.toInt64 a1), .long 1, .long 20]) (rest := []) (v := some (.int 1)) (hp2 := (j_hp (JR 4446 161 0 (lv_args 0 [.ref 9]) [] jh2 0 0 499 19978))) (fr2 := 499) (lo2 := 19975) jF_319_6 rfl (show j_cnd 500 20000 499 19975 6 _ _ = true from rfl) ?_) ?_
        · refine Eq.trans (jr_s (pc2 := 1) (lv2 := [(0, .long (Int32.toInt64 a1)), (2, .long 1), (4, .long 20)]) (st2 := [.long (Int32.toInt64 a1)]) jF_232_0 rfl rfl) ?_
          refine Eq.trans (jr_s (pc2 := 2) (lv2 := [(0, .long (Int32.toInt64 a1)), (2, .long 1), (4, .long 20)]) (st2 := [.long 1, .long (Int32.toInt64 a1)]) jF_232_1 rfl rfl) ?_
          refine Eq.trans (jr_s (pc2 := 3) (lv2 := [(0, .long (Int32.toInt64 a1)), (2, .long 1), (4, .long 20)]) (st2 := [.int (lg_cmp (Int32.toInt64 a1) 1)]) jF_232_2 rfl rfl) ?_
          refine Eq.trans (jr_if0 jF_232_3 (jkl_lt_ge (show (1 : Int64).toInt ≤ ((Int32.toInt64 a1) : Int64).toInt by rw [Int32.toInt_toInt64, show (1 : Int64).toInt = 1 from by decide]; omega))) ?_
          refine Eq.trans (jr_s (pc2 := 7) (lv2 := [(0, .long (Int32.toInt64 a1)), (2, .long 1), (4, .long 20)]) (st2 := [.long (Int32.toInt64 a1)]) jF_232_6 rfl rfl) ?_
          refine Eq.trans (jr_s (pc2 := 9) (lv2 := [(0, .long (Int32.toInt64 a1)), (2, .long 1), (4, .long 20)]) (st2 := [.long 20, .long (Int32.toInt64 a1)]) jF_232_7 rfl rfl) ?_
          refine Eq.trans (jr_s (pc2 := 10) (lv2 := [(0, .long (Int32.toInt64 a1)), (2, .long 1), (4, .long 20)]) (st2 := [.int (lg_cmp (Int32.toInt64 a1) 20)]) jF_232_9 rfl rfl) ?_
          refine Eq.trans (jr_if0 jF_232_10 (jkl_gt_le (show ((Int32.toInt64 a1) : Int64).toInt ≤ (20 : Int64).toInt by rw [Int32.toInt_toInt64, show (20 : Int64).toInt = 20 from by decide]; omega))) ?_
          refine Eq.trans (jr_s (pc2 := 14) (lv2 := [(0, .long (Int32.toInt64 a1)), (2, .long 1), (4, .long 20)]) (st2 := [.int 1]) jF_232_13 rfl rfl) ?_
          refine Eq.trans (jr_s (pc2 := 18) (lv2 := [(0, .long (Int32.toInt64 a1)), (2, .long 1), (4, .long 20)]) (st2 := [.int 1]) jF_232_14 rfl rfl) ?_
          exact jr_ri jF_232_18 rfl
        refine Eq.trans (jr_if1 jF_319_9 (by decide +kernel)) ?_
        refine Eq.trans (jr_s (pc2 := 25) (lv2 := [(0, .ref 117), (1, .int a1)]) (st2 := [.int 0]) jF_319_24 rfl rfl) ?_
        refine Eq.trans (jr_s (pc2 := 26) (lv2 := [(2, .int 0), (0, .ref 117), (1, .int a1)]) (st2 := []) jF_319_25 rfl rfl) ?_
        refine Eq.trans (jr_s (pc2 := 27) (lv2 := [(2, .int 0), (0, .ref 117), (1, .int a1)]) (st2 := [.int 0]) jF_319_26 rfl rfl) ?_
        refine Eq.trans (jr_s (pc2 := 28) (lv2 := [(2, .int 0), (0, .ref 117), (1, .int a1)]) (st2 := [.int a1, .int 0]) jF_319_27 rfl rfl) ?_
        refine Eq.trans (jr_ic0 jF_319_28 (jk_ge_lt (show (0 : Int32).toInt < (a1 : Int32).toInt by rw [show (0 : Int32).toInt = 0 from by decide]; omega))) ?_
        refine Eq.trans (jr_s (pc2 := 32) (lv2 := [(2, .int 0), (0, .ref 117), (1, .int a1)]) (st2 := [.ref 117]) jF_319_31 rfl rfl) ?_
        refine Eq.trans (jr_cV (a := 117) (as := []) (rest := []) (v := some (.int 0)) (hp2 := (j_hp (JR 2035 317 0 (lv_args 0 [.ref 117]) [] (j_hp (JR 4446 161 0 (lv_args 0 [.ref 9]) [] jh2 0 0 499 19978)) 0 0 499 19976))) (fr2 := 499) (lo2 := 19976) jF_319_32 (by decide +kernel) rfl (show j_cnd 500 20000 499 19976 5 _ _ = true from rfl) ?_) ?_
        · exact jr_upl (jr_cl (v := some (.int 0)) (by decide +kernel)) (by omega)
        refine Eq.trans (jr_if1 jF_319_35 (by decide +kernel)) ?_
        refine Eq.trans (jr_s (pc2 := 54) (lv2 := [(2, .int 0), (0, .ref 117), (1, .int a1)]) (st2 := [.int 0]) jF_319_53 rfl rfl) ?_
        exact jr_ri jF_319_54 rfl
    · refine ⟨60000, 60000, (-1), (j_hp (JR 25 25 0 (lv_args 0 [.ref 9, .int 2]) [] jh2 0 0 499 19979)), (j_stf (j_hp (JR 25 25 0 (lv_args 0 [.ref 9, .int 2]) [] jh2 0 0 499 19979)) 119 2 (.int 1)), ?_, ?_, by decide +kernel⟩
      · refine Eq.trans (jr_s (pc2 := 1) (lv2 := [(0, .ref 9), (1, .int a1)]) (st2 := [.int a1]) jF_163_0 rfl rfl) ?_
        refine Eq.trans (jr_s (pc2 := 2) (lv2 := [(0, .ref 9), (1, .int a1)]) (st2 := [.int 1, .int a1]) jF_163_1 rfl rfl) ?_
        refine Eq.trans (jr_ic0 jF_163_2 (jk_lt_ge (show (1 : Int32).toInt ≤ (a1 : Int32).toInt by rw [show (1 : Int32).toInt = 1 from by decide]; omega))) ?_
        refine Eq.trans (jr_s (pc2 := 6) (lv2 := [(0, .ref 9), (1, .int a1)]) (st2 := [.int a1]) jF_163_5 rfl rfl) ?_
        refine Eq.trans (jr_s (pc2 := 8) (lv2 := [(0, .ref 9), (1, .int a1)]) (st2 := [.int 20, .int a1]) jF_163_6 rfl rfl) ?_
        refine Eq.trans (jr_ic0 jF_163_8 (jk_le_gt (show (20 : Int32).toInt < (a1 : Int32).toInt by rw [show (20 : Int32).toInt = 20 from by decide]; omega))) ?_
        refine Eq.trans (jr_s (pc2 := 12) (lv2 := [(0, .ref 9), (1, .int a1)]) (st2 := [.ref 9]) jF_163_11 rfl rfl) ?_
        refine Eq.trans (jr_s (pc2 := 13) (lv2 := [(0, .ref 9), (1, .int a1)]) (st2 := [.int 2, .ref 9]) jF_163_12 rfl rfl) ?_
        refine Eq.trans (jr_cV (a := 9) (as := [.int 2]) (rest := []) (v := some (.int (-1))) (hp2 := (j_hp (JR 25 25 0 (lv_args 0 [.ref 9, .int 2]) [] jh2 0 0 499 19979))) (fr2 := 499) (lo2 := 19979) jF_163_13 (by decide +kernel) rfl (show j_cnd 500 20000 499 19979 2 _ _ = true from rfl) ?_) ?_
        · exact jr_upl (jr_cl (v := some (.int (-1))) (by decide +kernel)) (by omega)
        exact jr_ri jF_163_16 rfl
      · refine Eq.trans (jr_s (pc2 := 1) (lv2 := [(0, .ref 117), (1, .int a1)]) (st2 := [.int a1]) jF_319_0 rfl rfl) ?_
        refine Eq.trans (jr_s (pc2 := 2) (lv2 := [(0, .ref 117), (1, .int a1)]) (st2 := [.long (Int32.toInt64 a1)]) jF_319_1 rfl rfl) ?_
        refine Eq.trans (jr_s (pc2 := 3) (lv2 := [(0, .ref 117), (1, .int a1)]) (st2 := [.long 1, .long (Int32.toInt64 a1)]) jF_319_2 rfl rfl) ?_
        refine Eq.trans (jr_s (pc2 := 6) (lv2 := [(0, .ref 117), (1, .int a1)]) (st2 := [.long 20, .long 1, .long (Int32.toInt64 a1)]) jF_319_3 rfl rfl) ?_
        refine Eq.trans (jr_cS (as := [.long (Int32.toInt64 a1), .long 1, .long 20]) (rest := []) (v := some (.int 0)) (hp2 := (j_hp (JR 25 25 0 (lv_args 0 [.ref 9, .int 2]) [] jh2 0 0 499 19979))) (fr2 := 499) (lo2 := 19975) jF_319_6 rfl (show j_cnd 500 20000 499 19975 6 _ _ = true from rfl) ?_) ?_
        · refine Eq.trans (jr_s (pc2 := 1) (lv2 := [(0, .long (Int32.toInt64 a1)), (2, .long 1), (4, .long 20)]) (st2 := [.long (Int32.toInt64 a1)]) jF_232_0 rfl rfl) ?_
          refine Eq.trans (jr_s (pc2 := 2) (lv2 := [(0, .long (Int32.toInt64 a1)), (2, .long 1), (4, .long 20)]) (st2 := [.long 1, .long (Int32.toInt64 a1)]) jF_232_1 rfl rfl) ?_
          refine Eq.trans (jr_s (pc2 := 3) (lv2 := [(0, .long (Int32.toInt64 a1)), (2, .long 1), (4, .long 20)]) (st2 := [.int (lg_cmp (Int32.toInt64 a1) 1)]) jF_232_2 rfl rfl) ?_
          refine Eq.trans (jr_if0 jF_232_3 (jkl_lt_ge (show (1 : Int64).toInt ≤ ((Int32.toInt64 a1) : Int64).toInt by rw [Int32.toInt_toInt64, show (1 : Int64).toInt = 1 from by decide]; omega))) ?_
          refine Eq.trans (jr_s (pc2 := 7) (lv2 := [(0, .long (Int32.toInt64 a1)), (2, .long 1), (4, .long 20)]) (st2 := [.long (Int32.toInt64 a1)]) jF_232_6 rfl rfl) ?_
          refine Eq.trans (jr_s (pc2 := 9) (lv2 := [(0, .long (Int32.toInt64 a1)), (2, .long 1), (4, .long 20)]) (st2 := [.long 20, .long (Int32.toInt64 a1)]) jF_232_7 rfl rfl) ?_
          refine Eq.trans (jr_s (pc2 := 10) (lv2 := [(0, .long (Int32.toInt64 a1)), (2, .long 1), (4, .long 20)]) (st2 := [.int (lg_cmp (Int32.toInt64 a1) 20)]) jF_232_9 rfl rfl) ?_
          refine Eq.trans (jr_if1 jF_232_10 (jkl_gt_gt (show (20 : Int64).toInt < ((Int32.toInt64 a1) : Int64).toInt by rw [Int32.toInt_toInt64, show (20 : Int64).toInt = 20 from by decide]; omega))) ?_
          refine Eq.trans (jr_s (pc2 := 18) (lv2 := [(0, .long (Int32.toInt64 a1)), (2, .long 1), (4, .long 20)]) (st2 := [.int 0]) jF_232_17 rfl rfl) ?_
          exact jr_ri jF_232_18 rfl
        refine Eq.trans (jr_if0 jF_319_9 (by decide +kernel)) ?_
        refine Eq.trans (jr_s (pc2 := 13) (lv2 := [(0, .ref 117), (1, .int a1)]) (st2 := [.ref 117]) jF_319_12 rfl rfl) ?_
        refine Eq.trans (jr_gf (v := .ref 119) jF_319_13 (by decide +kernel)) ?_
        refine Eq.trans (jr_s (pc2 := 17) (lv2 := [(0, .ref 117), (1, .int a1)]) (st2 := [.int 2, .ref 119]) jF_319_16 rfl rfl) ?_
        refine Eq.trans (jr_s (pc2 := 18) (lv2 := [(0, .ref 117), (1, .int a1)]) (st2 := [.int 2, .ref 119, .int 2, .ref 119]) jF_319_17 rfl rfl) ?_
        refine Eq.trans (jr_ldi (v := .int 0) jF_319_18 (by decide +kernel)) ?_
        refine Eq.trans (jr_s (pc2 := 20) (lv2 := [(0, .ref 117), (1, .int a1)]) (st2 := [.int 1, .int 0, .int 2, .ref 119]) jF_319_19 rfl rfl) ?_
        refine Eq.trans (jr_s (pc2 := 21) (lv2 := [(0, .ref 117), (1, .int a1)]) (st2 := [.int 1, .int 2, .ref 119]) jF_319_20 rfl rfl) ?_
        refine Eq.trans (jr_sti (q := 2) jF_319_21 (by decide +kernel) (by decide +kernel)) ?_
        refine Eq.trans (jr_s (pc2 := 23) (lv2 := [(0, .ref 117), (1, .int a1)]) (st2 := [.int (-1)]) jF_319_22 rfl rfl) ?_
        exact jr_ri jF_319_23 rfl
