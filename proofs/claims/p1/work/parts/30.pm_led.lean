set_option maxHeartbeats 8000000 in
set_option maxRecDepth 100000 in
theorem pm_led (a1 a2 : Int32) : PM 104 279 [.int a1, .int a2] := by
  have ub_a1 := Int32.toInt_lt a1
  have lb_a1 := Int32.le_toInt a1
  have ub_a2 := Int32.toInt_lt a2
  have lb_a2 := Int32.le_toInt a2
  rcases j_ilt a1.toInt 0 with h_a1_0 | h_a1_0
  · refine ⟨60000, 60000, (-1), jh2, (j_hp (JR 281 243 0 (lv_args 0 [.ref 117]) [] jh2 0 0 498 19959)), ?_, ?_, by decide +kernel⟩
    · refine Eq.trans (jr_s (pc2 := 1) (lv2 := [(0, .ref 9), (1, .int a1), (2, .int a2)]) (st2 := [.ref 9]) jF_104_0 rfl rfl) ?_
      refine Eq.trans (jr_gf (v := .ref 20) jF_104_1 (by decide +kernel)) ?_
      refine Eq.trans (jr_s (pc2 := 5) (lv2 := [(0, .ref 9), (1, .int a1), (2, .int a2)]) (st2 := [.int a1, .ref 20]) jF_104_4 rfl rfl) ?_
      refine Eq.trans (jr_cV (a := 20) (as := [.int a1]) (rest := []) (v := some (.int 0)) (hp2 := jh2) (fr2 := 499) (lo2 := 19979) jF_104_5 (by decide +kernel) rfl (show j_cnd 500 20000 499 19979 2 _ _ = true from rfl) ?_) ?_
      · refine Eq.trans (jr_s (pc2 := 1) (lv2 := [(0, .ref 20), (1, .int a1)]) (st2 := [.int a1]) jF_100_0 rfl rfl) ?_
        refine Eq.trans (jr_if1 jF_100_1 (jk_lt_lt (show (a1 : Int32).toInt < (0 : Int32).toInt by rw [show (0 : Int32).toInt = 0 from by decide]; omega))) ?_
        refine Eq.trans (jr_s (pc2 := 17) (lv2 := [(0, .ref 20), (1, .int a1)]) (st2 := [.int 0]) jF_100_16 rfl rfl) ?_
        exact jr_ri jF_100_17 rfl
      refine Eq.trans (jr_if1 jF_104_8 (by decide +kernel)) ?_
      refine Eq.trans (jr_s (pc2 := 30) (lv2 := [(0, .ref 9), (1, .int a1), (2, .int a2)]) (st2 := [.int (-1)]) jF_104_29 rfl rfl) ?_
      exact jr_ri jF_104_30 rfl
    · refine Eq.trans (jr_s (pc2 := 1) (lv2 := [(0, .ref 117), (1, .int a1), (2, .int a2)]) (st2 := [.ref 117]) jF_279_0 rfl rfl) ?_
      refine Eq.trans (jr_s (pc2 := 2) (lv2 := [(0, .ref 117), (1, .int a1), (2, .int a2)]) (st2 := [.int a1, .ref 117]) jF_279_1 rfl rfl) ?_
      refine Eq.trans (jr_cV (a := 117) (as := [.int a1]) (rest := []) (v := some (.int 0)) (hp2 := (j_hp (JR 281 243 0 (lv_args 0 [.ref 117]) [] jh2 0 0 498 19959))) (fr2 := 499) (lo2 := 19979) jF_279_2 (by decide +kernel) rfl (show j_cnd 500 20000 499 19979 2 _ _ = true from rfl) ?_) ?_
      · refine Eq.trans (jr_s (pc2 := 1) (lv2 := [(0, .ref 117), (1, .int a1)]) (st2 := [.int a1]) jF_276_0 rfl rfl) ?_
        refine Eq.trans (jr_s (pc2 := 2) (lv2 := [(0, .ref 117), (1, .int a1)]) (st2 := [.long (Int32.toInt64 a1)]) jF_276_1 rfl rfl) ?_
        refine Eq.trans (jr_s (pc2 := 3) (lv2 := [(0, .ref 117), (1, .int a1)]) (st2 := [.long 0, .long (Int32.toInt64 a1)]) jF_276_2 rfl rfl) ?_
        refine Eq.trans (jr_s (pc2 := 4) (lv2 := [(0, .ref 117), (1, .int a1)]) (st2 := [.ref 117, .long 0, .long (Int32.toInt64 a1)]) jF_276_3 rfl rfl) ?_
        refine Eq.trans (jr_cV (a := 117) (as := []) (rest := [.long 0, .long (Int32.toInt64 a1)]) (v := some (.int 0)) (hp2 := (j_hp (JR 281 243 0 (lv_args 0 [.ref 117]) [] jh2 0 0 498 19959))) (fr2 := 498) (lo2 := 19959) jF_276_4 (by decide +kernel) rfl (show j_cnd 499 19979 498 19959 1 _ _ = true from rfl) ?_) ?_
        · exact jr_upl (jr_cl (v := some (.int 0)) (by decide +kernel)) (by omega)
        refine Eq.trans (jr_s (pc2 := 8) (lv2 := [(0, .ref 117), (1, .int a1)]) (st2 := [.int 1, .int 0, .long 0, .long (Int32.toInt64 a1)]) jF_276_7 rfl rfl) ?_
        refine Eq.trans (jr_s (pc2 := 9) (lv2 := [(0, .ref 117), (1, .int a1)]) (st2 := [.int (-1), .long 0, .long (Int32.toInt64 a1)]) jF_276_8 rfl rfl) ?_
        refine Eq.trans (jr_s (pc2 := 10) (lv2 := [(0, .ref 117), (1, .int a1)]) (st2 := [.long (-1), .long 0, .long (Int32.toInt64 a1)]) jF_276_9 rfl rfl) ?_
        refine Eq.trans (jr_cS (as := [.long (Int32.toInt64 a1), .long 0, .long (-1)]) (rest := []) (v := some (.int 0)) (hp2 := (j_hp (JR 281 243 0 (lv_args 0 [.ref 117]) [] jh2 0 0 498 19959))) (fr2 := 498) (lo2 := 19954) jF_276_10 rfl (show j_cnd 499 19979 498 19954 6 _ _ = true from rfl) ?_) ?_
        · refine Eq.trans (jr_s (pc2 := 1) (lv2 := [(0, .long (Int32.toInt64 a1)), (2, .long 0), (4, .long (-1))]) (st2 := [.long (Int32.toInt64 a1)]) jF_232_0 rfl rfl) ?_
          refine Eq.trans (jr_s (pc2 := 2) (lv2 := [(0, .long (Int32.toInt64 a1)), (2, .long 0), (4, .long (-1))]) (st2 := [.long 0, .long (Int32.toInt64 a1)]) jF_232_1 rfl rfl) ?_
          refine Eq.trans (jr_s (pc2 := 3) (lv2 := [(0, .long (Int32.toInt64 a1)), (2, .long 0), (4, .long (-1))]) (st2 := [.int (lg_cmp (Int32.toInt64 a1) 0)]) jF_232_2 rfl rfl) ?_
          refine Eq.trans (jr_if1 jF_232_3 (jkl_lt_lt (show ((Int32.toInt64 a1) : Int64).toInt < (0 : Int64).toInt by rw [Int32.toInt_toInt64, show (0 : Int64).toInt = 0 from by decide]; omega))) ?_
          refine Eq.trans (jr_s (pc2 := 18) (lv2 := [(0, .long (Int32.toInt64 a1)), (2, .long 0), (4, .long (-1))]) (st2 := [.int 0]) jF_232_17 rfl rfl) ?_
          exact jr_ri jF_232_18 rfl
        exact jr_ri jF_276_13 rfl
      refine Eq.trans (jr_if1 jF_279_5 (by decide +kernel)) ?_
      refine Eq.trans (jr_s (pc2 := 23) (lv2 := [(0, .ref 117), (1, .int a1), (2, .int a2)]) (st2 := [.int (-1)]) jF_279_22 rfl rfl) ?_
      exact jr_ri jF_279_23 rfl
  · refine ⟨60000, 60000, (-1), jh2, (j_hp (JR 281 243 0 (lv_args 0 [.ref 117]) [] jh2 0 0 498 19959)), ?_, ?_, by decide +kernel⟩
    · refine Eq.trans (jr_s (pc2 := 1) (lv2 := [(0, .ref 9), (1, .int a1), (2, .int a2)]) (st2 := [.ref 9]) jF_104_0 rfl rfl) ?_
      refine Eq.trans (jr_gf (v := .ref 20) jF_104_1 (by decide +kernel)) ?_
      refine Eq.trans (jr_s (pc2 := 5) (lv2 := [(0, .ref 9), (1, .int a1), (2, .int a2)]) (st2 := [.int a1, .ref 20]) jF_104_4 rfl rfl) ?_
      refine Eq.trans (jr_cV (a := 20) (as := [.int a1]) (rest := []) (v := some (.int 0)) (hp2 := jh2) (fr2 := 499) (lo2 := 19979) jF_104_5 (by decide +kernel) rfl (show j_cnd 500 20000 499 19979 2 _ _ = true from rfl) ?_) ?_
      · refine Eq.trans (jr_s (pc2 := 1) (lv2 := [(0, .ref 20), (1, .int a1)]) (st2 := [.int a1]) jF_100_0 rfl rfl) ?_
        refine Eq.trans (jr_if0 jF_100_1 (jk_lt_ge (show (0 : Int32).toInt ≤ (a1 : Int32).toInt by rw [show (0 : Int32).toInt = 0 from by decide]; omega))) ?_
        refine Eq.trans (jr_s (pc2 := 5) (lv2 := [(0, .ref 20), (1, .int a1)]) (st2 := [.int a1]) jF_100_4 rfl rfl) ?_
        refine Eq.trans (jr_s (pc2 := 6) (lv2 := [(0, .ref 20), (1, .int a1)]) (st2 := [.ref 20, .int a1]) jF_100_5 rfl rfl) ?_
        refine Eq.trans (jr_gf (v := .int 0) jF_100_6 (by decide +kernel)) ?_
        refine Eq.trans (jr_ic1 jF_100_9 (jk_ge_ge (show (0 : Int32).toInt ≤ (a1 : Int32).toInt by rw [show (0 : Int32).toInt = 0 from by decide]; omega))) ?_
        refine Eq.trans (jr_s (pc2 := 17) (lv2 := [(0, .ref 20), (1, .int a1)]) (st2 := [.int 0]) jF_100_16 rfl rfl) ?_
        exact jr_ri jF_100_17 rfl
      refine Eq.trans (jr_if1 jF_104_8 (by decide +kernel)) ?_
      refine Eq.trans (jr_s (pc2 := 30) (lv2 := [(0, .ref 9), (1, .int a1), (2, .int a2)]) (st2 := [.int (-1)]) jF_104_29 rfl rfl) ?_
      exact jr_ri jF_104_30 rfl
    · refine Eq.trans (jr_s (pc2 := 1) (lv2 := [(0, .ref 117), (1, .int a1), (2, .int a2)]) (st2 := [.ref 117]) jF_279_0 rfl rfl) ?_
      refine Eq.trans (jr_s (pc2 := 2) (lv2 := [(0, .ref 117), (1, .int a1), (2, .int a2)]) (st2 := [.int a1, .ref 117]) jF_279_1 rfl rfl) ?_
      refine Eq.trans (jr_cV (a := 117) (as := [.int a1]) (rest := []) (v := some (.int 0)) (hp2 := (j_hp (JR 281 243 0 (lv_args 0 [.ref 117]) [] jh2 0 0 498 19959))) (fr2 := 499) (lo2 := 19979) jF_279_2 (by decide +kernel) rfl (show j_cnd 500 20000 499 19979 2 _ _ = true from rfl) ?_) ?_
      · refine Eq.trans (jr_s (pc2 := 1) (lv2 := [(0, .ref 117), (1, .int a1)]) (st2 := [.int a1]) jF_276_0 rfl rfl) ?_
        refine Eq.trans (jr_s (pc2 := 2) (lv2 := [(0, .ref 117), (1, .int a1)]) (st2 := [.long (Int32.toInt64 a1)]) jF_276_1 rfl rfl) ?_
        refine Eq.trans (jr_s (pc2 := 3) (lv2 := [(0, .ref 117), (1, .int a1)]) (st2 := [.long 0, .long (Int32.toInt64 a1)]) jF_276_2 rfl rfl) ?_
        refine Eq.trans (jr_s (pc2 := 4) (lv2 := [(0, .ref 117), (1, .int a1)]) (st2 := [.ref 117, .long 0, .long (Int32.toInt64 a1)]) jF_276_3 rfl rfl) ?_
        refine Eq.trans (jr_cV (a := 117) (as := []) (rest := [.long 0, .long (Int32.toInt64 a1)]) (v := some (.int 0)) (hp2 := (j_hp (JR 281 243 0 (lv_args 0 [.ref 117]) [] jh2 0 0 498 19959))) (fr2 := 498) (lo2 := 19959) jF_276_4 (by decide +kernel) rfl (show j_cnd 499 19979 498 19959 1 _ _ = true from rfl) ?_) ?_
        · exact jr_upl (jr_cl (v := some (.int 0)) (by decide +kernel)) (by omega)
        refine Eq.trans (jr_s (pc2 := 8) (lv2 := [(0, .ref 117), (1, .int a1)]) (st2 := [.int 1, .int 0, .long 0, .long (Int32.toInt64 a1)]) jF_276_7 rfl rfl) ?_
        refine Eq.trans (jr_s (pc2 := 9) (lv2 := [(0, .ref 117), (1, .int a1)]) (st2 := [.int (-1), .long 0, .long (Int32.toInt64 a1)]) jF_276_8 rfl rfl) ?_
        refine Eq.trans (jr_s (pc2 := 10) (lv2 := [(0, .ref 117), (1, .int a1)]) (st2 := [.long (-1), .long 0, .long (Int32.toInt64 a1)]) jF_276_9 rfl rfl) ?_
        refine Eq.trans (jr_cS (as := [.long (Int32.toInt64 a1), .long 0, .long (-1)]) (rest := []) (v := some (.int 0)) (hp2 := (j_hp (JR 281 243 0 (lv_args 0 [.ref 117]) [] jh2 0 0 498 19959))) (fr2 := 498) (lo2 := 19954) jF_276_10 rfl (show j_cnd 499 19979 498 19954 6 _ _ = true from rfl) ?_) ?_
        · refine Eq.trans (jr_s (pc2 := 1) (lv2 := [(0, .long (Int32.toInt64 a1)), (2, .long 0), (4, .long (-1))]) (st2 := [.long (Int32.toInt64 a1)]) jF_232_0 rfl rfl) ?_
          refine Eq.trans (jr_s (pc2 := 2) (lv2 := [(0, .long (Int32.toInt64 a1)), (2, .long 0), (4, .long (-1))]) (st2 := [.long 0, .long (Int32.toInt64 a1)]) jF_232_1 rfl rfl) ?_
          refine Eq.trans (jr_s (pc2 := 3) (lv2 := [(0, .long (Int32.toInt64 a1)), (2, .long 0), (4, .long (-1))]) (st2 := [.int (lg_cmp (Int32.toInt64 a1) 0)]) jF_232_2 rfl rfl) ?_
          refine Eq.trans (jr_if0 jF_232_3 (jkl_lt_ge (show (0 : Int64).toInt ≤ ((Int32.toInt64 a1) : Int64).toInt by rw [Int32.toInt_toInt64, show (0 : Int64).toInt = 0 from by decide]; omega))) ?_
          refine Eq.trans (jr_s (pc2 := 7) (lv2 := [(0, .long (Int32.toInt64 a1)), (2, .long 0), (4, .long (-1))]) (st2 := [.long (Int32.toInt64 a1)]) jF_232_6 rfl rfl) ?_
          refine Eq.trans (jr_s (pc2 := 9) (lv2 := [(0, .long (Int32.toInt64 a1)), (2, .long 0), (4, .long (-1))]) (st2 := [.long (-1), .long (Int32.toInt64 a1)]) jF_232_7 rfl rfl) ?_
          refine Eq.trans (jr_s (pc2 := 10) (lv2 := [(0, .long (Int32.toInt64 a1)), (2, .long 0), (4, .long (-1))]) (st2 := [.int (lg_cmp (Int32.toInt64 a1) (-1))]) jF_232_9 rfl rfl) ?_
          refine Eq.trans (jr_if1 jF_232_10 (jkl_gt_gt (show ((-1) : Int64).toInt < ((Int32.toInt64 a1) : Int64).toInt by rw [Int32.toInt_toInt64, show ((-1) : Int64).toInt = (-1) from by decide]; omega))) ?_
          refine Eq.trans (jr_s (pc2 := 18) (lv2 := [(0, .long (Int32.toInt64 a1)), (2, .long 0), (4, .long (-1))]) (st2 := [.int 0]) jF_232_17 rfl rfl) ?_
          exact jr_ri jF_232_18 rfl
        exact jr_ri jF_276_13 rfl
      refine Eq.trans (jr_if1 jF_279_5 (by decide +kernel)) ?_
      refine Eq.trans (jr_s (pc2 := 23) (lv2 := [(0, .ref 117), (1, .int a1), (2, .int a2)]) (st2 := [.int (-1)]) jF_279_22 rfl rfl) ?_
      exact jr_ri jF_279_23 rfl
