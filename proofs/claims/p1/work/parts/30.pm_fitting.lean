set_option maxHeartbeats 8000000 in
set_option maxRecDepth 100000 in
theorem pm_fitting (a1 : Int32) : PM 164 320 [.int a1] := by
  have ub_a1 := Int32.toInt_lt a1
  have lb_a1 := Int32.le_toInt a1
  rcases j_ilt a1.toInt 0 with h_a1_0 | h_a1_0
  · refine ⟨60000, 60000, (-1), (j_hp (JR 59991 126 0 (lv_args 0 [.ref 93, .ref 20]) [] jh2 0 0 498 19957)), (j_hp (JR 59991 126 0 (lv_args 0 [.ref 93, .ref 20]) [] jh2 0 0 498 19957)), ?_, ?_, by decide +kernel⟩
    · refine Eq.trans (jr_s (pc2 := 1) (lv2 := [(0, .ref 9), (1, .int a1)]) (st2 := [.ref 9]) jF_164_0 rfl rfl) ?_
      refine Eq.trans (jr_gf (v := .ref 93) jF_164_1 (by decide +kernel)) ?_
      refine Eq.trans (jr_s (pc2 := 5) (lv2 := [(0, .ref 9), (1, .int a1)]) (st2 := [.ref 9, .ref 93]) jF_164_4 rfl rfl) ?_
      refine Eq.trans (jr_gf (v := .ref 20) jF_164_5 (by decide +kernel)) ?_
      refine Eq.trans (jr_s (pc2 := 9) (lv2 := [(0, .ref 9), (1, .int a1)]) (st2 := [.int a1, .ref 20, .ref 93]) jF_164_8 rfl rfl) ?_
      refine Eq.trans (jr_cV (a := 93) (as := [.ref 20, .int a1]) (rest := []) (v := some (.int (-1))) (hp2 := (j_hp (JR 59991 126 0 (lv_args 0 [.ref 93, .ref 20]) [] jh2 0 0 498 19957))) (fr2 := 499) (lo2 := 19978) jF_164_9 (by decide +kernel) rfl (show j_cnd 500 20000 499 19978 3 _ _ = true from rfl) ?_) ?_
      · refine Eq.trans (jr_s (pc2 := 1) (lv2 := [(0, .ref 93), (1, .ref 20), (2, .int a1)]) (st2 := [.ref 93]) jF_165_0 rfl rfl) ?_
        refine Eq.trans (jr_s (pc2 := 2) (lv2 := [(0, .ref 93), (1, .ref 20), (2, .int a1)]) (st2 := [.ref 20, .ref 93]) jF_165_1 rfl rfl) ?_
        refine Eq.trans (jr_cV (a := 93) (as := [.ref 20]) (rest := []) (v := none) (hp2 := (j_hp (JR 59991 126 0 (lv_args 0 [.ref 93, .ref 20]) [] jh2 0 0 498 19957))) (fr2 := 498) (lo2 := 19957) jF_165_2 (by decide +kernel) rfl (show j_cnd 499 19978 498 19957 2 _ _ = true from rfl) ?_) ?_
        · exact jr_cl (v := none) (by decide +kernel)
        refine Eq.trans (jr_s (pc2 := 6) (lv2 := [(0, .ref 93), (1, .ref 20), (2, .int a1)]) (st2 := [.int a1]) jF_165_5 rfl rfl) ?_
        refine Eq.trans (jr_ts jF_165_6 (Or.inl (by omega)) (tgt := 64) rfl) ?_
        refine Eq.trans (jr_s (pc2 := 65) (lv2 := [(0, .ref 93), (1, .ref 20), (2, .int a1)]) (st2 := [.int (-1)]) jF_165_64 rfl rfl) ?_
        exact jr_ri jF_165_65 rfl
      exact jr_ri jF_164_12 rfl
    · refine Eq.trans (jr_s (pc2 := 1) (lv2 := [(0, .ref 117), (1, .int a1)]) (st2 := [.int a1]) jF_320_0 rfl rfl) ?_
      refine Eq.trans (jr_s (pc2 := 2) (lv2 := [(0, .ref 117), (1, .int a1)]) (st2 := [.long (Int32.toInt64 a1)]) jF_320_1 rfl rfl) ?_
      refine Eq.trans (jr_s (pc2 := 3) (lv2 := [(0, .ref 117), (1, .int a1)]) (st2 := [.long 0, .long (Int32.toInt64 a1)]) jF_320_2 rfl rfl) ?_
      refine Eq.trans (jr_s (pc2 := 6) (lv2 := [(0, .ref 117), (1, .int a1)]) (st2 := [.long 2, .long 0, .long (Int32.toInt64 a1)]) jF_320_3 rfl rfl) ?_
      refine Eq.trans (jr_cS (as := [.long (Int32.toInt64 a1), .long 0, .long 2]) (rest := []) (v := some (.int 0)) (hp2 := (j_hp (JR 59991 126 0 (lv_args 0 [.ref 93, .ref 20]) [] jh2 0 0 498 19957))) (fr2 := 499) (lo2 := 19975) jF_320_6 rfl (show j_cnd 500 20000 499 19975 6 _ _ = true from rfl) ?_) ?_
      · refine Eq.trans (jr_s (pc2 := 1) (lv2 := [(0, .long (Int32.toInt64 a1)), (2, .long 0), (4, .long 2)]) (st2 := [.long (Int32.toInt64 a1)]) jF_232_0 rfl rfl) ?_
        refine Eq.trans (jr_s (pc2 := 2) (lv2 := [(0, .long (Int32.toInt64 a1)), (2, .long 0), (4, .long 2)]) (st2 := [.long 0, .long (Int32.toInt64 a1)]) jF_232_1 rfl rfl) ?_
        refine Eq.trans (jr_s (pc2 := 3) (lv2 := [(0, .long (Int32.toInt64 a1)), (2, .long 0), (4, .long 2)]) (st2 := [.int (lg_cmp (Int32.toInt64 a1) 0)]) jF_232_2 rfl rfl) ?_
        refine Eq.trans (jr_if1 jF_232_3 (jkl_lt_lt (show ((Int32.toInt64 a1) : Int64).toInt < (0 : Int64).toInt by rw [Int32.toInt_toInt64, show (0 : Int64).toInt = 0 from by decide]; omega))) ?_
        refine Eq.trans (jr_s (pc2 := 18) (lv2 := [(0, .long (Int32.toInt64 a1)), (2, .long 0), (4, .long 2)]) (st2 := [.int 0]) jF_232_17 rfl rfl) ?_
        exact jr_ri jF_232_18 rfl
      refine Eq.trans (jr_if0 jF_320_9 (by decide +kernel)) ?_
      refine Eq.trans (jr_s (pc2 := 13) (lv2 := [(0, .ref 117), (1, .int a1)]) (st2 := [.int (-1)]) jF_320_12 rfl rfl) ?_
      exact jr_ri jF_320_13 rfl
  · rcases j_ilt a1.toInt 1 with h_a1_1 | h_a1_1
    · obtain rfl : a1 = 0 := Int32.toInt_inj.mp (by rw [show (0 : Int32).toInt = 0 from by decide]; omega)
      exact jpair_ok (n1 := 100000) (n2 := 100000) (by decide +kernel)
    · rcases j_ilt a1.toInt 2 with h_a1_2 | h_a1_2
      · obtain rfl : a1 = 1 := Int32.toInt_inj.mp (by rw [show (1 : Int32).toInt = 1 from by decide]; omega)
        exact jpair_ok (n1 := 100000) (n2 := 100000) (by decide +kernel)
      · rcases j_ilt a1.toInt 3 with h_a1_3 | h_a1_3
        · obtain rfl : a1 = 2 := Int32.toInt_inj.mp (by rw [show (2 : Int32).toInt = 2 from by decide]; omega)
          exact jpair_ok (n1 := 100000) (n2 := 100000) (by decide +kernel)
        · refine ⟨60000, 60000, (-1), (j_hp (JR 59991 126 0 (lv_args 0 [.ref 93, .ref 20]) [] jh2 0 0 498 19957)), (j_hp (JR 59991 126 0 (lv_args 0 [.ref 93, .ref 20]) [] jh2 0 0 498 19957)), ?_, ?_, by decide +kernel⟩
          · refine Eq.trans (jr_s (pc2 := 1) (lv2 := [(0, .ref 9), (1, .int a1)]) (st2 := [.ref 9]) jF_164_0 rfl rfl) ?_
            refine Eq.trans (jr_gf (v := .ref 93) jF_164_1 (by decide +kernel)) ?_
            refine Eq.trans (jr_s (pc2 := 5) (lv2 := [(0, .ref 9), (1, .int a1)]) (st2 := [.ref 9, .ref 93]) jF_164_4 rfl rfl) ?_
            refine Eq.trans (jr_gf (v := .ref 20) jF_164_5 (by decide +kernel)) ?_
            refine Eq.trans (jr_s (pc2 := 9) (lv2 := [(0, .ref 9), (1, .int a1)]) (st2 := [.int a1, .ref 20, .ref 93]) jF_164_8 rfl rfl) ?_
            refine Eq.trans (jr_cV (a := 93) (as := [.ref 20, .int a1]) (rest := []) (v := some (.int (-1))) (hp2 := (j_hp (JR 59991 126 0 (lv_args 0 [.ref 93, .ref 20]) [] jh2 0 0 498 19957))) (fr2 := 499) (lo2 := 19978) jF_164_9 (by decide +kernel) rfl (show j_cnd 500 20000 499 19978 3 _ _ = true from rfl) ?_) ?_
            · refine Eq.trans (jr_s (pc2 := 1) (lv2 := [(0, .ref 93), (1, .ref 20), (2, .int a1)]) (st2 := [.ref 93]) jF_165_0 rfl rfl) ?_
              refine Eq.trans (jr_s (pc2 := 2) (lv2 := [(0, .ref 93), (1, .ref 20), (2, .int a1)]) (st2 := [.ref 20, .ref 93]) jF_165_1 rfl rfl) ?_
              refine Eq.trans (jr_cV (a := 93) (as := [.ref 20]) (rest := []) (v := none) (hp2 := (j_hp (JR 59991 126 0 (lv_args 0 [.ref 93, .ref 20]) [] jh2 0 0 498 19957))) (fr2 := 498) (lo2 := 19957) jF_165_2 (by decide +kernel) rfl (show j_cnd 499 19978 498 19957 2 _ _ = true from rfl) ?_) ?_
              · exact jr_cl (v := none) (by decide +kernel)
              refine Eq.trans (jr_s (pc2 := 6) (lv2 := [(0, .ref 93), (1, .ref 20), (2, .int a1)]) (st2 := [.int a1]) jF_165_5 rfl rfl) ?_
              refine Eq.trans (jr_ts jF_165_6 (Or.inr (by omega)) (tgt := 64) rfl) ?_
              refine Eq.trans (jr_s (pc2 := 65) (lv2 := [(0, .ref 93), (1, .ref 20), (2, .int a1)]) (st2 := [.int (-1)]) jF_165_64 rfl rfl) ?_
              exact jr_ri jF_165_65 rfl
            exact jr_ri jF_164_12 rfl
          · refine Eq.trans (jr_s (pc2 := 1) (lv2 := [(0, .ref 117), (1, .int a1)]) (st2 := [.int a1]) jF_320_0 rfl rfl) ?_
            refine Eq.trans (jr_s (pc2 := 2) (lv2 := [(0, .ref 117), (1, .int a1)]) (st2 := [.long (Int32.toInt64 a1)]) jF_320_1 rfl rfl) ?_
            refine Eq.trans (jr_s (pc2 := 3) (lv2 := [(0, .ref 117), (1, .int a1)]) (st2 := [.long 0, .long (Int32.toInt64 a1)]) jF_320_2 rfl rfl) ?_
            refine Eq.trans (jr_s (pc2 := 6) (lv2 := [(0, .ref 117), (1, .int a1)]) (st2 := [.long 2, .long 0, .long (Int32.toInt64 a1)]) jF_320_3 rfl rfl) ?_
            refine Eq.trans (jr_cS (as := [.long (Int32.toInt64 a1), .long 0, .long 2]) (rest := []) (v := some (.int 0)) (hp2 := (j_hp (JR 59991 126 0 (lv_args 0 [.ref 93, .ref 20]) [] jh2 0 0 498 19957))) (fr2 := 499) (lo2 := 19975) jF_320_6 rfl (show j_cnd 500 20000 499 19975 6 _ _ = true from rfl) ?_) ?_
            · refine Eq.trans (jr_s (pc2 := 1) (lv2 := [(0, .long (Int32.toInt64 a1)), (2, .long 0), (4, .long 2)]) (st2 := [.long (Int32.toInt64 a1)]) jF_232_0 rfl rfl) ?_
              refine Eq.trans (jr_s (pc2 := 2) (lv2 := [(0, .long (Int32.toInt64 a1)), (2, .long 0), (4, .long 2)]) (st2 := [.long 0, .long (Int32.toInt64 a1)]) jF_232_1 rfl rfl) ?_
              refine Eq.trans (jr_s (pc2 := 3) (lv2 := [(0, .long (Int32.toInt64 a1)), (2, .long 0), (4, .long 2)]) (st2 := [.int (lg_cmp (Int32.toInt64 a1) 0)]) jF_232_2 rfl rfl) ?_
              refine Eq.trans (jr_if0 jF_232_3 (jkl_lt_ge (show (0 : Int64).toInt ≤ ((Int32.toInt64 a1) : Int64).toInt by rw [Int32.toInt_toInt64, show (0 : Int64).toInt = 0 from by decide]; omega))) ?_
              refine Eq.trans (jr_s (pc2 := 7) (lv2 := [(0, .long (Int32.toInt64 a1)), (2, .long 0), (4, .long 2)]) (st2 := [.long (Int32.toInt64 a1)]) jF_232_6 rfl rfl) ?_
              refine Eq.trans (jr_s (pc2 := 9) (lv2 := [(0, .long (Int32.toInt64 a1)), (2, .long 0), (4, .long 2)]) (st2 := [.long 2, .long (Int32.toInt64 a1)]) jF_232_7 rfl rfl) ?_
              refine Eq.trans (jr_s (pc2 := 10) (lv2 := [(0, .long (Int32.toInt64 a1)), (2, .long 0), (4, .long 2)]) (st2 := [.int (lg_cmp (Int32.toInt64 a1) 2)]) jF_232_9 rfl rfl) ?_
              refine Eq.trans (jr_if1 jF_232_10 (jkl_gt_gt (show (2 : Int64).toInt < ((Int32.toInt64 a1) : Int64).toInt by rw [Int32.toInt_toInt64, show (2 : Int64).toInt = 2 from by decide]; omega))) ?_
              refine Eq.trans (jr_s (pc2 := 18) (lv2 := [(0, .long (Int32.toInt64 a1)), (2, .long 0), (4, .long 2)]) (st2 := [.int 0]) jF_232_17 rfl rfl) ?_
              exact jr_ri jF_232_18 rfl
            refine Eq.trans (jr_if0 jF_320_9 (by decide +kernel)) ?_
            refine Eq.trans (jr_s (pc2 := 13) (lv2 := [(0, .ref 117), (1, .int a1)]) (st2 := [.int (-1)]) jF_320_12 rfl rfl) ?_
            exact jr_ri jF_320_13 rfl
