set_option maxHeartbeats 8000000 in
set_option maxRecDepth 100000 in
theorem pm_sign_0 (a2 : Int32) : PM 94 268 [.int 0, .int a2] := by
  have ub_a2 := Int32.toInt_lt a2
  have lb_a2 := Int32.le_toInt a2
  rcases j_ilt a2.toInt (-1) with h_a2_1m | h_a2_1m
  · refine ⟨60000, 60000, (-1), jh2, jh2, ?_, ?_, by decide +kernel⟩
    · refine Eq.trans (jr_s (pc2 := 1) (lv2 := [(0, .ref 9), (1, .int 0), (2, .int a2)]) (st2 := [.int 0]) jF_94_0 rfl rfl) ?_
      refine Eq.trans (jr_if1 jF_94_1 (by decide +kernel)) ?_
      refine Eq.trans (jr_s (pc2 := 12) (lv2 := [(0, .ref 9), (1, .int 0), (2, .int a2)]) (st2 := [.ref 9]) jF_94_11 rfl rfl) ?_
      refine Eq.trans (jr_gf (v := .ref 70) jF_94_12 (by decide +kernel)) ?_
      refine Eq.trans (jr_s (pc2 := 16) (lv2 := [(3, .ref 70), (0, .ref 9), (1, .int 0), (2, .int a2)]) (st2 := []) jF_94_15 rfl rfl) ?_
      refine Eq.trans (jr_s (pc2 := 17) (lv2 := [(3, .ref 70), (0, .ref 9), (1, .int 0), (2, .int a2)]) (st2 := [.int a2]) jF_94_16 rfl rfl) ?_
      refine Eq.trans (jr_s (pc2 := 18) (lv2 := [(3, .ref 70), (0, .ref 9), (1, .int 0), (2, .int a2)]) (st2 := [.int (-1), .int a2]) jF_94_17 rfl rfl) ?_
      refine Eq.trans (jr_ic1 jF_94_18 (jk_ne_lt (show (a2 : Int32).toInt < ((-1) : Int32).toInt by rw [show ((-1) : Int32).toInt = (-1) from by decide]; omega))) ?_
      refine Eq.trans (jr_s (pc2 := 27) (lv2 := [(3, .ref 70), (0, .ref 9), (1, .int 0), (2, .int a2)]) (st2 := [.int a2]) jF_94_26 rfl rfl) ?_
      refine Eq.trans (jr_if1 jF_94_27 (jk_lt_lt (show (a2 : Int32).toInt < (0 : Int32).toInt by rw [show (0 : Int32).toInt = 0 from by decide]; omega))) ?_
      refine Eq.trans (jr_s (pc2 := 48) (lv2 := [(3, .ref 70), (0, .ref 9), (1, .int 0), (2, .int a2)]) (st2 := [.int (-1)]) jF_94_47 rfl rfl) ?_
      exact jr_ri jF_94_48 rfl
    · refine Eq.trans (jr_s (pc2 := 1) (lv2 := [(0, .ref 117), (1, .int 0), (2, .int a2)]) (st2 := [.int 0]) jF_268_0 rfl rfl) ?_
      refine Eq.trans (jr_cS (as := [.int 0]) (rest := []) (v := some (.int 0)) (hp2 := jh2) (fr2 := 499) (lo2 := 19980) jF_268_1 rfl (show j_cnd 500 20000 499 19980 1 _ _ = true from rfl) ?_) ?_
      · refine Eq.trans (jr_s (pc2 := 1) (lv2 := [(0, .int 0)]) (st2 := [.int 0]) jF_269_0 rfl rfl) ?_
        refine Eq.trans (jr_if1 jF_269_1 (by decide +kernel)) ?_
        refine Eq.trans (jr_s (pc2 := 9) (lv2 := [(0, .int 0)]) (st2 := [.int 0]) jF_269_8 rfl rfl) ?_
        exact jr_ri jF_269_9 rfl
      refine Eq.trans (jr_s (pc2 := 5) (lv2 := [(3, .int 0), (0, .ref 117), (1, .int 0), (2, .int a2)]) (st2 := []) jF_268_4 rfl rfl) ?_
      refine Eq.trans (jr_s (pc2 := 6) (lv2 := [(3, .int 0), (0, .ref 117), (1, .int 0), (2, .int a2)]) (st2 := [.int a2]) jF_268_5 rfl rfl) ?_
      refine Eq.trans (jr_s (pc2 := 7) (lv2 := [(3, .int 0), (0, .ref 117), (1, .int 0), (2, .int a2)]) (st2 := [.int (-1), .int a2]) jF_268_6 rfl rfl) ?_
      refine Eq.trans (jr_ic1 jF_268_7 (jk_ne_lt (show (a2 : Int32).toInt < ((-1) : Int32).toInt by rw [show ((-1) : Int32).toInt = (-1) from by decide]; omega))) ?_
      refine Eq.trans (jr_s (pc2 := 20) (lv2 := [(3, .int 0), (0, .ref 117), (1, .int 0), (2, .int a2)]) (st2 := [.int a2]) jF_268_19 rfl rfl) ?_
      refine Eq.trans (jr_s (pc2 := 21) (lv2 := [(3, .int 0), (0, .ref 117), (1, .int 0), (2, .int a2)]) (st2 := [.long (Int32.toInt64 a2)]) jF_268_20 rfl rfl) ?_
      refine Eq.trans (jr_s (pc2 := 22) (lv2 := [(3, .int 0), (0, .ref 117), (1, .int 0), (2, .int a2)]) (st2 := [.long 0, .long (Int32.toInt64 a2)]) jF_268_21 rfl rfl) ?_
      refine Eq.trans (jr_s (pc2 := 23) (lv2 := [(3, .int 0), (0, .ref 117), (1, .int 0), (2, .int a2)]) (st2 := [.ref 117, .long 0, .long (Int32.toInt64 a2)]) jF_268_22 rfl rfl) ?_
      refine Eq.trans (jr_gf (v := .ref 148) jF_268_23 (by decide +kernel)) ?_
      refine Eq.trans (jr_s (pc2 := 27) (lv2 := [(3, .int 0), (0, .ref 117), (1, .int 0), (2, .int a2)]) (st2 := [.int 0, .ref 148, .long 0, .long (Int32.toInt64 a2)]) jF_268_26 rfl rfl) ?_
      refine Eq.trans (jr_ldi (v := .int 0) jF_268_27 (by decide +kernel)) ?_
      refine Eq.trans (jr_s (pc2 := 29) (lv2 := [(3, .int 0), (0, .ref 117), (1, .int 0), (2, .int a2)]) (st2 := [.int 1, .int 0, .long 0, .long (Int32.toInt64 a2)]) jF_268_28 rfl rfl) ?_
      refine Eq.trans (jr_s (pc2 := 30) (lv2 := [(3, .int 0), (0, .ref 117), (1, .int 0), (2, .int a2)]) (st2 := [.int (-1), .long 0, .long (Int32.toInt64 a2)]) jF_268_29 rfl rfl) ?_
      refine Eq.trans (jr_s (pc2 := 31) (lv2 := [(3, .int 0), (0, .ref 117), (1, .int 0), (2, .int a2)]) (st2 := [.long (-1), .long 0, .long (Int32.toInt64 a2)]) jF_268_30 rfl rfl) ?_
      refine Eq.trans (jr_cS (as := [.long (Int32.toInt64 a2), .long 0, .long (-1)]) (rest := []) (v := some (.int 0)) (hp2 := jh2) (fr2 := 499) (lo2 := 19975) jF_268_31 rfl (show j_cnd 500 20000 499 19975 6 _ _ = true from rfl) ?_) ?_
      · refine Eq.trans (jr_s (pc2 := 1) (lv2 := [(0, .long (Int32.toInt64 a2)), (2, .long 0), (4, .long (-1))]) (st2 := [.long (Int32.toInt64 a2)]) jF_232_0 rfl rfl) ?_
        refine Eq.trans (jr_s (pc2 := 2) (lv2 := [(0, .long (Int32.toInt64 a2)), (2, .long 0), (4, .long (-1))]) (st2 := [.long 0, .long (Int32.toInt64 a2)]) jF_232_1 rfl rfl) ?_
        refine Eq.trans (jr_s (pc2 := 3) (lv2 := [(0, .long (Int32.toInt64 a2)), (2, .long 0), (4, .long (-1))]) (st2 := [.int (lg_cmp (Int32.toInt64 a2) 0)]) jF_232_2 rfl rfl) ?_
        refine Eq.trans (jr_if1 jF_232_3 (jkl_lt_lt (show ((Int32.toInt64 a2) : Int64).toInt < (0 : Int64).toInt by rw [Int32.toInt_toInt64, show (0 : Int64).toInt = 0 from by decide]; omega))) ?_
        refine Eq.trans (jr_s (pc2 := 18) (lv2 := [(0, .long (Int32.toInt64 a2)), (2, .long 0), (4, .long (-1))]) (st2 := [.int 0]) jF_232_17 rfl rfl) ?_
        exact jr_ri jF_232_18 rfl
      refine Eq.trans (jr_if1 jF_268_34 (by decide +kernel)) ?_
      refine Eq.trans (jr_s (pc2 := 52) (lv2 := [(3, .int 0), (0, .ref 117), (1, .int 0), (2, .int a2)]) (st2 := [.int (-1)]) jF_268_51 rfl rfl) ?_
      exact jr_ri jF_268_52 rfl
  · rcases j_ilt a2.toInt 0 with h_a2_0 | h_a2_0
    · obtain rfl : a2 = (-1) := Int32.toInt_inj.mp (by rw [show ((-1) : Int32).toInt = (-1) from by decide]; omega)
      exact jpair_ok (n1 := 100000) (n2 := 100000) (by decide +kernel)
    · refine ⟨60000, 60000, (-1), jh2, jh2, ?_, ?_, by decide +kernel⟩
      · refine Eq.trans (jr_s (pc2 := 1) (lv2 := [(0, .ref 9), (1, .int 0), (2, .int a2)]) (st2 := [.int 0]) jF_94_0 rfl rfl) ?_
        refine Eq.trans (jr_if1 jF_94_1 (by decide +kernel)) ?_
        refine Eq.trans (jr_s (pc2 := 12) (lv2 := [(0, .ref 9), (1, .int 0), (2, .int a2)]) (st2 := [.ref 9]) jF_94_11 rfl rfl) ?_
        refine Eq.trans (jr_gf (v := .ref 70) jF_94_12 (by decide +kernel)) ?_
        refine Eq.trans (jr_s (pc2 := 16) (lv2 := [(3, .ref 70), (0, .ref 9), (1, .int 0), (2, .int a2)]) (st2 := []) jF_94_15 rfl rfl) ?_
        refine Eq.trans (jr_s (pc2 := 17) (lv2 := [(3, .ref 70), (0, .ref 9), (1, .int 0), (2, .int a2)]) (st2 := [.int a2]) jF_94_16 rfl rfl) ?_
        refine Eq.trans (jr_s (pc2 := 18) (lv2 := [(3, .ref 70), (0, .ref 9), (1, .int 0), (2, .int a2)]) (st2 := [.int (-1), .int a2]) jF_94_17 rfl rfl) ?_
        refine Eq.trans (jr_ic1 jF_94_18 (jk_ne_gt (show ((-1) : Int32).toInt < (a2 : Int32).toInt by rw [show ((-1) : Int32).toInt = (-1) from by decide]; omega))) ?_
        refine Eq.trans (jr_s (pc2 := 27) (lv2 := [(3, .ref 70), (0, .ref 9), (1, .int 0), (2, .int a2)]) (st2 := [.int a2]) jF_94_26 rfl rfl) ?_
        refine Eq.trans (jr_if0 jF_94_27 (jk_lt_ge (show (0 : Int32).toInt ≤ (a2 : Int32).toInt by rw [show (0 : Int32).toInt = 0 from by decide]; omega))) ?_
        refine Eq.trans (jr_s (pc2 := 31) (lv2 := [(3, .ref 70), (0, .ref 9), (1, .int 0), (2, .int a2)]) (st2 := [.int a2]) jF_94_30 rfl rfl) ?_
        refine Eq.trans (jr_s (pc2 := 32) (lv2 := [(3, .ref 70), (0, .ref 9), (1, .int 0), (2, .int a2)]) (st2 := [.ref 70, .int a2]) jF_94_31 rfl rfl) ?_
        refine Eq.trans (jr_gf (v := .int 0) jF_94_32 (by decide +kernel)) ?_
        refine Eq.trans (jr_ic1 jF_94_35 (jk_ge_ge (show (0 : Int32).toInt ≤ (a2 : Int32).toInt by rw [show (0 : Int32).toInt = 0 from by decide]; omega))) ?_
        refine Eq.trans (jr_s (pc2 := 48) (lv2 := [(3, .ref 70), (0, .ref 9), (1, .int 0), (2, .int a2)]) (st2 := [.int (-1)]) jF_94_47 rfl rfl) ?_
        exact jr_ri jF_94_48 rfl
      · refine Eq.trans (jr_s (pc2 := 1) (lv2 := [(0, .ref 117), (1, .int 0), (2, .int a2)]) (st2 := [.int 0]) jF_268_0 rfl rfl) ?_
        refine Eq.trans (jr_cS (as := [.int 0]) (rest := []) (v := some (.int 0)) (hp2 := jh2) (fr2 := 499) (lo2 := 19980) jF_268_1 rfl (show j_cnd 500 20000 499 19980 1 _ _ = true from rfl) ?_) ?_
        · refine Eq.trans (jr_s (pc2 := 1) (lv2 := [(0, .int 0)]) (st2 := [.int 0]) jF_269_0 rfl rfl) ?_
          refine Eq.trans (jr_if1 jF_269_1 (by decide +kernel)) ?_
          refine Eq.trans (jr_s (pc2 := 9) (lv2 := [(0, .int 0)]) (st2 := [.int 0]) jF_269_8 rfl rfl) ?_
          exact jr_ri jF_269_9 rfl
        refine Eq.trans (jr_s (pc2 := 5) (lv2 := [(3, .int 0), (0, .ref 117), (1, .int 0), (2, .int a2)]) (st2 := []) jF_268_4 rfl rfl) ?_
        refine Eq.trans (jr_s (pc2 := 6) (lv2 := [(3, .int 0), (0, .ref 117), (1, .int 0), (2, .int a2)]) (st2 := [.int a2]) jF_268_5 rfl rfl) ?_
        refine Eq.trans (jr_s (pc2 := 7) (lv2 := [(3, .int 0), (0, .ref 117), (1, .int 0), (2, .int a2)]) (st2 := [.int (-1), .int a2]) jF_268_6 rfl rfl) ?_
        refine Eq.trans (jr_ic1 jF_268_7 (jk_ne_gt (show ((-1) : Int32).toInt < (a2 : Int32).toInt by rw [show ((-1) : Int32).toInt = (-1) from by decide]; omega))) ?_
        refine Eq.trans (jr_s (pc2 := 20) (lv2 := [(3, .int 0), (0, .ref 117), (1, .int 0), (2, .int a2)]) (st2 := [.int a2]) jF_268_19 rfl rfl) ?_
        refine Eq.trans (jr_s (pc2 := 21) (lv2 := [(3, .int 0), (0, .ref 117), (1, .int 0), (2, .int a2)]) (st2 := [.long (Int32.toInt64 a2)]) jF_268_20 rfl rfl) ?_
        refine Eq.trans (jr_s (pc2 := 22) (lv2 := [(3, .int 0), (0, .ref 117), (1, .int 0), (2, .int a2)]) (st2 := [.long 0, .long (Int32.toInt64 a2)]) jF_268_21 rfl rfl) ?_
        refine Eq.trans (jr_s (pc2 := 23) (lv2 := [(3, .int 0), (0, .ref 117), (1, .int 0), (2, .int a2)]) (st2 := [.ref 117, .long 0, .long (Int32.toInt64 a2)]) jF_268_22 rfl rfl) ?_
        refine Eq.trans (jr_gf (v := .ref 148) jF_268_23 (by decide +kernel)) ?_
        refine Eq.trans (jr_s (pc2 := 27) (lv2 := [(3, .int 0), (0, .ref 117), (1, .int 0), (2, .int a2)]) (st2 := [.int 0, .ref 148, .long 0, .long (Int32.toInt64 a2)]) jF_268_26 rfl rfl) ?_
        refine Eq.trans (jr_ldi (v := .int 0) jF_268_27 (by decide +kernel)) ?_
        refine Eq.trans (jr_s (pc2 := 29) (lv2 := [(3, .int 0), (0, .ref 117), (1, .int 0), (2, .int a2)]) (st2 := [.int 1, .int 0, .long 0, .long (Int32.toInt64 a2)]) jF_268_28 rfl rfl) ?_
        refine Eq.trans (jr_s (pc2 := 30) (lv2 := [(3, .int 0), (0, .ref 117), (1, .int 0), (2, .int a2)]) (st2 := [.int (-1), .long 0, .long (Int32.toInt64 a2)]) jF_268_29 rfl rfl) ?_
        refine Eq.trans (jr_s (pc2 := 31) (lv2 := [(3, .int 0), (0, .ref 117), (1, .int 0), (2, .int a2)]) (st2 := [.long (-1), .long 0, .long (Int32.toInt64 a2)]) jF_268_30 rfl rfl) ?_
        refine Eq.trans (jr_cS (as := [.long (Int32.toInt64 a2), .long 0, .long (-1)]) (rest := []) (v := some (.int 0)) (hp2 := jh2) (fr2 := 499) (lo2 := 19975) jF_268_31 rfl (show j_cnd 500 20000 499 19975 6 _ _ = true from rfl) ?_) ?_
        · refine Eq.trans (jr_s (pc2 := 1) (lv2 := [(0, .long (Int32.toInt64 a2)), (2, .long 0), (4, .long (-1))]) (st2 := [.long (Int32.toInt64 a2)]) jF_232_0 rfl rfl) ?_
          refine Eq.trans (jr_s (pc2 := 2) (lv2 := [(0, .long (Int32.toInt64 a2)), (2, .long 0), (4, .long (-1))]) (st2 := [.long 0, .long (Int32.toInt64 a2)]) jF_232_1 rfl rfl) ?_
          refine Eq.trans (jr_s (pc2 := 3) (lv2 := [(0, .long (Int32.toInt64 a2)), (2, .long 0), (4, .long (-1))]) (st2 := [.int (lg_cmp (Int32.toInt64 a2) 0)]) jF_232_2 rfl rfl) ?_
          refine Eq.trans (jr_if0 jF_232_3 (jkl_lt_ge (show (0 : Int64).toInt ≤ ((Int32.toInt64 a2) : Int64).toInt by rw [Int32.toInt_toInt64, show (0 : Int64).toInt = 0 from by decide]; omega))) ?_
          refine Eq.trans (jr_s (pc2 := 7) (lv2 := [(0, .long (Int32.toInt64 a2)), (2, .long 0), (4, .long (-1))]) (st2 := [.long (Int32.toInt64 a2)]) jF_232_6 rfl rfl) ?_
          refine Eq.trans (jr_s (pc2 := 9) (lv2 := [(0, .long (Int32.toInt64 a2)), (2, .long 0), (4, .long (-1))]) (st2 := [.long (-1), .long (Int32.toInt64 a2)]) jF_232_7 rfl rfl) ?_
          refine Eq.trans (jr_s (pc2 := 10) (lv2 := [(0, .long (Int32.toInt64 a2)), (2, .long 0), (4, .long (-1))]) (st2 := [.int (lg_cmp (Int32.toInt64 a2) (-1))]) jF_232_9 rfl rfl) ?_
          refine Eq.trans (jr_if1 jF_232_10 (jkl_gt_gt (show ((-1) : Int64).toInt < ((Int32.toInt64 a2) : Int64).toInt by rw [Int32.toInt_toInt64, show ((-1) : Int64).toInt = (-1) from by decide]; omega))) ?_
          refine Eq.trans (jr_s (pc2 := 18) (lv2 := [(0, .long (Int32.toInt64 a2)), (2, .long 0), (4, .long (-1))]) (st2 := [.int 0]) jF_232_17 rfl rfl) ?_
          exact jr_ri jF_232_18 rfl
        refine Eq.trans (jr_if1 jF_268_34 (by decide +kernel)) ?_
        refine Eq.trans (jr_s (pc2 := 52) (lv2 := [(3, .int 0), (0, .ref 117), (1, .int 0), (2, .int a2)]) (st2 := [.int (-1)]) jF_268_51 rfl rfl) ?_
        exact jr_ri jF_268_52 rfl
set_option maxHeartbeats 8000000 in
set_option maxRecDepth 100000 in
theorem pm_sign_1 (a2 : Int32) : PM 94 268 [.int 1, .int a2] := by
  have ub_a2 := Int32.toInt_lt a2
  have lb_a2 := Int32.le_toInt a2
  rcases j_ilt a2.toInt (-1) with h_a2_1m | h_a2_1m
  · refine ⟨60000, 60000, (-1), jh2, jh2, ?_, ?_, by decide +kernel⟩
    · refine Eq.trans (jr_s (pc2 := 1) (lv2 := [(0, .ref 9), (1, .int 1), (2, .int a2)]) (st2 := [.int 1]) jF_94_0 rfl rfl) ?_
      refine Eq.trans (jr_if0 jF_94_1 (by decide +kernel)) ?_
      refine Eq.trans (jr_s (pc2 := 5) (lv2 := [(0, .ref 9), (1, .int 1), (2, .int a2)]) (st2 := [.ref 9]) jF_94_4 rfl rfl) ?_
      refine Eq.trans (jr_gf (v := .ref 75) jF_94_5 (by decide +kernel)) ?_
      refine Eq.trans (jr_s (pc2 := 15) (lv2 := [(0, .ref 9), (1, .int 1), (2, .int a2)]) (st2 := [.ref 75]) jF_94_8 rfl rfl) ?_
      refine Eq.trans (jr_s (pc2 := 16) (lv2 := [(3, .ref 75), (0, .ref 9), (1, .int 1), (2, .int a2)]) (st2 := []) jF_94_15 rfl rfl) ?_
      refine Eq.trans (jr_s (pc2 := 17) (lv2 := [(3, .ref 75), (0, .ref 9), (1, .int 1), (2, .int a2)]) (st2 := [.int a2]) jF_94_16 rfl rfl) ?_
      refine Eq.trans (jr_s (pc2 := 18) (lv2 := [(3, .ref 75), (0, .ref 9), (1, .int 1), (2, .int a2)]) (st2 := [.int (-1), .int a2]) jF_94_17 rfl rfl) ?_
      refine Eq.trans (jr_ic1 jF_94_18 (jk_ne_lt (show (a2 : Int32).toInt < ((-1) : Int32).toInt by rw [show ((-1) : Int32).toInt = (-1) from by decide]; omega))) ?_
      refine Eq.trans (jr_s (pc2 := 27) (lv2 := [(3, .ref 75), (0, .ref 9), (1, .int 1), (2, .int a2)]) (st2 := [.int a2]) jF_94_26 rfl rfl) ?_
      refine Eq.trans (jr_if1 jF_94_27 (jk_lt_lt (show (a2 : Int32).toInt < (0 : Int32).toInt by rw [show (0 : Int32).toInt = 0 from by decide]; omega))) ?_
      refine Eq.trans (jr_s (pc2 := 48) (lv2 := [(3, .ref 75), (0, .ref 9), (1, .int 1), (2, .int a2)]) (st2 := [.int (-1)]) jF_94_47 rfl rfl) ?_
      exact jr_ri jF_94_48 rfl
    · refine Eq.trans (jr_s (pc2 := 1) (lv2 := [(0, .ref 117), (1, .int 1), (2, .int a2)]) (st2 := [.int 1]) jF_268_0 rfl rfl) ?_
      refine Eq.trans (jr_cS (as := [.int 1]) (rest := []) (v := some (.int 1)) (hp2 := jh2) (fr2 := 499) (lo2 := 19980) jF_268_1 rfl (show j_cnd 500 20000 499 19980 1 _ _ = true from rfl) ?_) ?_
      · refine Eq.trans (jr_s (pc2 := 1) (lv2 := [(0, .int 1)]) (st2 := [.int 1]) jF_269_0 rfl rfl) ?_
        refine Eq.trans (jr_if0 jF_269_1 (by decide +kernel)) ?_
        refine Eq.trans (jr_s (pc2 := 5) (lv2 := [(0, .int 1)]) (st2 := [.int 1]) jF_269_4 rfl rfl) ?_
        refine Eq.trans (jr_s (pc2 := 9) (lv2 := [(0, .int 1)]) (st2 := [.int 1]) jF_269_5 rfl rfl) ?_
        exact jr_ri jF_269_9 rfl
      refine Eq.trans (jr_s (pc2 := 5) (lv2 := [(3, .int 1), (0, .ref 117), (1, .int 1), (2, .int a2)]) (st2 := []) jF_268_4 rfl rfl) ?_
      refine Eq.trans (jr_s (pc2 := 6) (lv2 := [(3, .int 1), (0, .ref 117), (1, .int 1), (2, .int a2)]) (st2 := [.int a2]) jF_268_5 rfl rfl) ?_
      refine Eq.trans (jr_s (pc2 := 7) (lv2 := [(3, .int 1), (0, .ref 117), (1, .int 1), (2, .int a2)]) (st2 := [.int (-1), .int a2]) jF_268_6 rfl rfl) ?_
      refine Eq.trans (jr_ic1 jF_268_7 (jk_ne_lt (show (a2 : Int32).toInt < ((-1) : Int32).toInt by rw [show ((-1) : Int32).toInt = (-1) from by decide]; omega))) ?_
      refine Eq.trans (jr_s (pc2 := 20) (lv2 := [(3, .int 1), (0, .ref 117), (1, .int 1), (2, .int a2)]) (st2 := [.int a2]) jF_268_19 rfl rfl) ?_
      refine Eq.trans (jr_s (pc2 := 21) (lv2 := [(3, .int 1), (0, .ref 117), (1, .int 1), (2, .int a2)]) (st2 := [.long (Int32.toInt64 a2)]) jF_268_20 rfl rfl) ?_
      refine Eq.trans (jr_s (pc2 := 22) (lv2 := [(3, .int 1), (0, .ref 117), (1, .int 1), (2, .int a2)]) (st2 := [.long 0, .long (Int32.toInt64 a2)]) jF_268_21 rfl rfl) ?_
      refine Eq.trans (jr_s (pc2 := 23) (lv2 := [(3, .int 1), (0, .ref 117), (1, .int 1), (2, .int a2)]) (st2 := [.ref 117, .long 0, .long (Int32.toInt64 a2)]) jF_268_22 rfl rfl) ?_
      refine Eq.trans (jr_gf (v := .ref 148) jF_268_23 (by decide +kernel)) ?_
      refine Eq.trans (jr_s (pc2 := 27) (lv2 := [(3, .int 1), (0, .ref 117), (1, .int 1), (2, .int a2)]) (st2 := [.int 1, .ref 148, .long 0, .long (Int32.toInt64 a2)]) jF_268_26 rfl rfl) ?_
      refine Eq.trans (jr_ldi (v := .int 0) jF_268_27 (by decide +kernel)) ?_
      refine Eq.trans (jr_s (pc2 := 29) (lv2 := [(3, .int 1), (0, .ref 117), (1, .int 1), (2, .int a2)]) (st2 := [.int 1, .int 0, .long 0, .long (Int32.toInt64 a2)]) jF_268_28 rfl rfl) ?_
      refine Eq.trans (jr_s (pc2 := 30) (lv2 := [(3, .int 1), (0, .ref 117), (1, .int 1), (2, .int a2)]) (st2 := [.int (-1), .long 0, .long (Int32.toInt64 a2)]) jF_268_29 rfl rfl) ?_
      refine Eq.trans (jr_s (pc2 := 31) (lv2 := [(3, .int 1), (0, .ref 117), (1, .int 1), (2, .int a2)]) (st2 := [.long (-1), .long 0, .long (Int32.toInt64 a2)]) jF_268_30 rfl rfl) ?_
      refine Eq.trans (jr_cS (as := [.long (Int32.toInt64 a2), .long 0, .long (-1)]) (rest := []) (v := some (.int 0)) (hp2 := jh2) (fr2 := 499) (lo2 := 19975) jF_268_31 rfl (show j_cnd 500 20000 499 19975 6 _ _ = true from rfl) ?_) ?_
      · refine Eq.trans (jr_s (pc2 := 1) (lv2 := [(0, .long (Int32.toInt64 a2)), (2, .long 0), (4, .long (-1))]) (st2 := [.long (Int32.toInt64 a2)]) jF_232_0 rfl rfl) ?_
        refine Eq.trans (jr_s (pc2 := 2) (lv2 := [(0, .long (Int32.toInt64 a2)), (2, .long 0), (4, .long (-1))]) (st2 := [.long 0, .long (Int32.toInt64 a2)]) jF_232_1 rfl rfl) ?_
        refine Eq.trans (jr_s (pc2 := 3) (lv2 := [(0, .long (Int32.toInt64 a2)), (2, .long 0), (4, .long (-1))]) (st2 := [.int (lg_cmp (Int32.toInt64 a2) 0)]) jF_232_2 rfl rfl) ?_
        refine Eq.trans (jr_if1 jF_232_3 (jkl_lt_lt (show ((Int32.toInt64 a2) : Int64).toInt < (0 : Int64).toInt by rw [Int32.toInt_toInt64, show (0 : Int64).toInt = 0 from by decide]; omega))) ?_
        refine Eq.trans (jr_s (pc2 := 18) (lv2 := [(0, .long (Int32.toInt64 a2)), (2, .long 0), (4, .long (-1))]) (st2 := [.int 0]) jF_232_17 rfl rfl) ?_
        exact jr_ri jF_232_18 rfl
      refine Eq.trans (jr_if1 jF_268_34 (by decide +kernel)) ?_
      refine Eq.trans (jr_s (pc2 := 52) (lv2 := [(3, .int 1), (0, .ref 117), (1, .int 1), (2, .int a2)]) (st2 := [.int (-1)]) jF_268_51 rfl rfl) ?_
      exact jr_ri jF_268_52 rfl
  · rcases j_ilt a2.toInt 0 with h_a2_0 | h_a2_0
    · obtain rfl : a2 = (-1) := Int32.toInt_inj.mp (by rw [show ((-1) : Int32).toInt = (-1) from by decide]; omega)
      exact jpair_ok (n1 := 100000) (n2 := 100000) (by decide +kernel)
    · refine ⟨60000, 60000, (-1), jh2, jh2, ?_, ?_, by decide +kernel⟩
      · refine Eq.trans (jr_s (pc2 := 1) (lv2 := [(0, .ref 9), (1, .int 1), (2, .int a2)]) (st2 := [.int 1]) jF_94_0 rfl rfl) ?_
        refine Eq.trans (jr_if0 jF_94_1 (by decide +kernel)) ?_
        refine Eq.trans (jr_s (pc2 := 5) (lv2 := [(0, .ref 9), (1, .int 1), (2, .int a2)]) (st2 := [.ref 9]) jF_94_4 rfl rfl) ?_
        refine Eq.trans (jr_gf (v := .ref 75) jF_94_5 (by decide +kernel)) ?_
        refine Eq.trans (jr_s (pc2 := 15) (lv2 := [(0, .ref 9), (1, .int 1), (2, .int a2)]) (st2 := [.ref 75]) jF_94_8 rfl rfl) ?_
        refine Eq.trans (jr_s (pc2 := 16) (lv2 := [(3, .ref 75), (0, .ref 9), (1, .int 1), (2, .int a2)]) (st2 := []) jF_94_15 rfl rfl) ?_
        refine Eq.trans (jr_s (pc2 := 17) (lv2 := [(3, .ref 75), (0, .ref 9), (1, .int 1), (2, .int a2)]) (st2 := [.int a2]) jF_94_16 rfl rfl) ?_
        refine Eq.trans (jr_s (pc2 := 18) (lv2 := [(3, .ref 75), (0, .ref 9), (1, .int 1), (2, .int a2)]) (st2 := [.int (-1), .int a2]) jF_94_17 rfl rfl) ?_
        refine Eq.trans (jr_ic1 jF_94_18 (jk_ne_gt (show ((-1) : Int32).toInt < (a2 : Int32).toInt by rw [show ((-1) : Int32).toInt = (-1) from by decide]; omega))) ?_
        refine Eq.trans (jr_s (pc2 := 27) (lv2 := [(3, .ref 75), (0, .ref 9), (1, .int 1), (2, .int a2)]) (st2 := [.int a2]) jF_94_26 rfl rfl) ?_
        refine Eq.trans (jr_if0 jF_94_27 (jk_lt_ge (show (0 : Int32).toInt ≤ (a2 : Int32).toInt by rw [show (0 : Int32).toInt = 0 from by decide]; omega))) ?_
        refine Eq.trans (jr_s (pc2 := 31) (lv2 := [(3, .ref 75), (0, .ref 9), (1, .int 1), (2, .int a2)]) (st2 := [.int a2]) jF_94_30 rfl rfl) ?_
        refine Eq.trans (jr_s (pc2 := 32) (lv2 := [(3, .ref 75), (0, .ref 9), (1, .int 1), (2, .int a2)]) (st2 := [.ref 75, .int a2]) jF_94_31 rfl rfl) ?_
        refine Eq.trans (jr_gf (v := .int 0) jF_94_32 (by decide +kernel)) ?_
        refine Eq.trans (jr_ic1 jF_94_35 (jk_ge_ge (show (0 : Int32).toInt ≤ (a2 : Int32).toInt by rw [show (0 : Int32).toInt = 0 from by decide]; omega))) ?_
        refine Eq.trans (jr_s (pc2 := 48) (lv2 := [(3, .ref 75), (0, .ref 9), (1, .int 1), (2, .int a2)]) (st2 := [.int (-1)]) jF_94_47 rfl rfl) ?_
        exact jr_ri jF_94_48 rfl
      · refine Eq.trans (jr_s (pc2 := 1) (lv2 := [(0, .ref 117), (1, .int 1), (2, .int a2)]) (st2 := [.int 1]) jF_268_0 rfl rfl) ?_
        refine Eq.trans (jr_cS (as := [.int 1]) (rest := []) (v := some (.int 1)) (hp2 := jh2) (fr2 := 499) (lo2 := 19980) jF_268_1 rfl (show j_cnd 500 20000 499 19980 1 _ _ = true from rfl) ?_) ?_
        · refine Eq.trans (jr_s (pc2 := 1) (lv2 := [(0, .int 1)]) (st2 := [.int 1]) jF_269_0 rfl rfl) ?_
          refine Eq.trans (jr_if0 jF_269_1 (by decide +kernel)) ?_
          refine Eq.trans (jr_s (pc2 := 5) (lv2 := [(0, .int 1)]) (st2 := [.int 1]) jF_269_4 rfl rfl) ?_
          refine Eq.trans (jr_s (pc2 := 9) (lv2 := [(0, .int 1)]) (st2 := [.int 1]) jF_269_5 rfl rfl) ?_
          exact jr_ri jF_269_9 rfl
        refine Eq.trans (jr_s (pc2 := 5) (lv2 := [(3, .int 1), (0, .ref 117), (1, .int 1), (2, .int a2)]) (st2 := []) jF_268_4 rfl rfl) ?_
        refine Eq.trans (jr_s (pc2 := 6) (lv2 := [(3, .int 1), (0, .ref 117), (1, .int 1), (2, .int a2)]) (st2 := [.int a2]) jF_268_5 rfl rfl) ?_
        refine Eq.trans (jr_s (pc2 := 7) (lv2 := [(3, .int 1), (0, .ref 117), (1, .int 1), (2, .int a2)]) (st2 := [.int (-1), .int a2]) jF_268_6 rfl rfl) ?_
        refine Eq.trans (jr_ic1 jF_268_7 (jk_ne_gt (show ((-1) : Int32).toInt < (a2 : Int32).toInt by rw [show ((-1) : Int32).toInt = (-1) from by decide]; omega))) ?_
        refine Eq.trans (jr_s (pc2 := 20) (lv2 := [(3, .int 1), (0, .ref 117), (1, .int 1), (2, .int a2)]) (st2 := [.int a2]) jF_268_19 rfl rfl) ?_
        refine Eq.trans (jr_s (pc2 := 21) (lv2 := [(3, .int 1), (0, .ref 117), (1, .int 1), (2, .int a2)]) (st2 := [.long (Int32.toInt64 a2)]) jF_268_20 rfl rfl) ?_
        refine Eq.trans (jr_s (pc2 := 22) (lv2 := [(3, .int 1), (0, .ref 117), (1, .int 1), (2, .int a2)]) (st2 := [.long 0, .long (Int32.toInt64 a2)]) jF_268_21 rfl rfl) ?_
        refine Eq.trans (jr_s (pc2 := 23) (lv2 := [(3, .int 1), (0, .ref 117), (1, .int 1), (2, .int a2)]) (st2 := [.ref 117, .long 0, .long (Int32.toInt64 a2)]) jF_268_22 rfl rfl) ?_
        refine Eq.trans (jr_gf (v := .ref 148) jF_268_23 (by decide +kernel)) ?_
        refine Eq.trans (jr_s (pc2 := 27) (lv2 := [(3, .int 1), (0, .ref 117), (1, .int 1), (2, .int a2)]) (st2 := [.int 1, .ref 148, .long 0, .long (Int32.toInt64 a2)]) jF_268_26 rfl rfl) ?_
        refine Eq.trans (jr_ldi (v := .int 0) jF_268_27 (by decide +kernel)) ?_
        refine Eq.trans (jr_s (pc2 := 29) (lv2 := [(3, .int 1), (0, .ref 117), (1, .int 1), (2, .int a2)]) (st2 := [.int 1, .int 0, .long 0, .long (Int32.toInt64 a2)]) jF_268_28 rfl rfl) ?_
        refine Eq.trans (jr_s (pc2 := 30) (lv2 := [(3, .int 1), (0, .ref 117), (1, .int 1), (2, .int a2)]) (st2 := [.int (-1), .long 0, .long (Int32.toInt64 a2)]) jF_268_29 rfl rfl) ?_
        refine Eq.trans (jr_s (pc2 := 31) (lv2 := [(3, .int 1), (0, .ref 117), (1, .int 1), (2, .int a2)]) (st2 := [.long (-1), .long 0, .long (Int32.toInt64 a2)]) jF_268_30 rfl rfl) ?_
        refine Eq.trans (jr_cS (as := [.long (Int32.toInt64 a2), .long 0, .long (-1)]) (rest := []) (v := some (.int 0)) (hp2 := jh2) (fr2 := 499) (lo2 := 19975) jF_268_31 rfl (show j_cnd 500 20000 499 19975 6 _ _ = true from rfl) ?_) ?_
        · refine Eq.trans (jr_s (pc2 := 1) (lv2 := [(0, .long (Int32.toInt64 a2)), (2, .long 0), (4, .long (-1))]) (st2 := [.long (Int32.toInt64 a2)]) jF_232_0 rfl rfl) ?_
          refine Eq.trans (jr_s (pc2 := 2) (lv2 := [(0, .long (Int32.toInt64 a2)), (2, .long 0), (4, .long (-1))]) (st2 := [.long 0, .long (Int32.toInt64 a2)]) jF_232_1 rfl rfl) ?_
          refine Eq.trans (jr_s (pc2 := 3) (lv2 := [(0, .long (Int32.toInt64 a2)), (2, .long 0), (4, .long (-1))]) (st2 := [.int (lg_cmp (Int32.toInt64 a2) 0)]) jF_232_2 rfl rfl) ?_
          refine Eq.trans (jr_if0 jF_232_3 (jkl_lt_ge (show (0 : Int64).toInt ≤ ((Int32.toInt64 a2) : Int64).toInt by rw [Int32.toInt_toInt64, show (0 : Int64).toInt = 0 from by decide]; omega))) ?_
          refine Eq.trans (jr_s (pc2 := 7) (lv2 := [(0, .long (Int32.toInt64 a2)), (2, .long 0), (4, .long (-1))]) (st2 := [.long (Int32.toInt64 a2)]) jF_232_6 rfl rfl) ?_
          refine Eq.trans (jr_s (pc2 := 9) (lv2 := [(0, .long (Int32.toInt64 a2)), (2, .long 0), (4, .long (-1))]) (st2 := [.long (-1), .long (Int32.toInt64 a2)]) jF_232_7 rfl rfl) ?_
          refine Eq.trans (jr_s (pc2 := 10) (lv2 := [(0, .long (Int32.toInt64 a2)), (2, .long 0), (4, .long (-1))]) (st2 := [.int (lg_cmp (Int32.toInt64 a2) (-1))]) jF_232_9 rfl rfl) ?_
          refine Eq.trans (jr_if1 jF_232_10 (jkl_gt_gt (show ((-1) : Int64).toInt < ((Int32.toInt64 a2) : Int64).toInt by rw [Int32.toInt_toInt64, show ((-1) : Int64).toInt = (-1) from by decide]; omega))) ?_
          refine Eq.trans (jr_s (pc2 := 18) (lv2 := [(0, .long (Int32.toInt64 a2)), (2, .long 0), (4, .long (-1))]) (st2 := [.int 0]) jF_232_17 rfl rfl) ?_
          exact jr_ri jF_232_18 rfl
        refine Eq.trans (jr_if1 jF_268_34 (by decide +kernel)) ?_
        refine Eq.trans (jr_s (pc2 := 52) (lv2 := [(3, .int 1), (0, .ref 117), (1, .int 1), (2, .int a2)]) (st2 := [.int (-1)]) jF_268_51 rfl rfl) ?_
        exact jr_ri jF_268_52 rfl
