set_option maxHeartbeats 8000000 in
set_option maxRecDepth 100000 in
theorem pm_swap (a1 a2 : Int32) : PM 119 292 [.int a1, .int a2] := by
  have ub_a1 := Int32.toInt_lt a1
  have lb_a1 := Int32.le_toInt a1
  have ub_a2 := Int32.toInt_lt a2
  have lb_a2 := Int32.le_toInt a2
  rcases j_ilt a1.toInt 0 with h_a1_0 | h_a1_0
  · refine ⟨60000, 60000, (-1), (j_hp (JR 25 25 0 (lv_args 0 [.ref 9, .int 2]) [] jh2 0 0 499 19979)), (j_stf (j_hp (JR 21 271 0 (lv_args 0 [.ref 117, .int 0]) [] (j_hp (JR 25 25 0 (lv_args 0 [.ref 9, .int 2]) [] jh2 0 0 499 19979)) 0 0 497 19931)) 119 2 (.int 1)), ?_, ?_, by decide +kernel⟩
    · refine Eq.trans (jr_s (pc2 := 1) (lv2 := [(0, .ref 9), (1, .int a1), (2, .int a2)]) (st2 := [.ref 9]) jF_119_0 rfl rfl) ?_
      refine Eq.trans (jr_s (pc2 := 2) (lv2 := [(0, .ref 9), (1, .int a1), (2, .int a2)]) (st2 := [.int a1, .ref 9]) jF_119_1 rfl rfl) ?_
      refine Eq.trans (jr_s (pc2 := 3) (lv2 := [(0, .ref 9), (1, .int a1), (2, .int a2)]) (st2 := [.int a2, .int a1, .ref 9]) jF_119_2 rfl rfl) ?_
      refine Eq.trans (jr_cV (a := 9) (as := [.int a1, .int a2]) (rest := []) (v := some (.int 0)) (hp2 := jh2) (fr2 := 499) (lo2 := 19978) jF_119_3 (by decide +kernel) rfl (show j_cnd 500 20000 499 19978 3 _ _ = true from rfl) ?_) ?_
      · refine Eq.trans (jr_s (pc2 := 1) (lv2 := [(0, .ref 9), (1, .int a1), (2, .int a2)]) (st2 := [.int a1]) jF_115_0 rfl rfl) ?_
        refine Eq.trans (jr_if1 jF_115_1 (jk_lt_lt (show (a1 : Int32).toInt < (0 : Int32).toInt by rw [show (0 : Int32).toInt = 0 from by decide]; omega))) ?_
        refine Eq.trans (jr_s (pc2 := 30) (lv2 := [(0, .ref 9), (1, .int a1), (2, .int a2)]) (st2 := [.int 0]) jF_115_29 rfl rfl) ?_
        exact jr_ri jF_115_30 rfl
      refine Eq.trans (jr_if1 jF_119_6 (by decide +kernel)) ?_
      refine Eq.trans (jr_s (pc2 := 25) (lv2 := [(0, .ref 9), (1, .int a1), (2, .int a2)]) (st2 := [.ref 9]) jF_119_24 rfl rfl) ?_
      refine Eq.trans (jr_s (pc2 := 26) (lv2 := [(0, .ref 9), (1, .int a1), (2, .int a2)]) (st2 := [.int 2, .ref 9]) jF_119_25 rfl rfl) ?_
      refine Eq.trans (jr_cV (a := 9) (as := [.int 2]) (rest := []) (v := some (.int (-1))) (hp2 := (j_hp (JR 25 25 0 (lv_args 0 [.ref 9, .int 2]) [] jh2 0 0 499 19979))) (fr2 := 499) (lo2 := 19979) jF_119_26 (by decide +kernel) rfl (show j_cnd 500 20000 499 19979 2 _ _ = true from rfl) ?_) ?_
      · exact jr_upl (jr_cl (v := some (.int (-1))) (by decide +kernel)) (by omega)
      exact jr_ri jF_119_29 rfl
    · refine Eq.trans (jr_s (pc2 := 1) (lv2 := [(0, .ref 117), (1, .int a1), (2, .int a2)]) (st2 := [.ref 117]) jF_292_0 rfl rfl) ?_
      refine Eq.trans (jr_s (pc2 := 2) (lv2 := [(0, .ref 117), (1, .int a1), (2, .int a2)]) (st2 := [.int 2, .ref 117]) jF_292_1 rfl rfl) ?_
      refine Eq.trans (jr_s (pc2 := 3) (lv2 := [(0, .ref 117), (1, .int a1), (2, .int a2)]) (st2 := [.int a1, .int 2, .ref 117]) jF_292_2 rfl rfl) ?_
      refine Eq.trans (jr_s (pc2 := 4) (lv2 := [(0, .ref 117), (1, .int a1), (2, .int a2)]) (st2 := [.int a2, .int a1, .int 2, .ref 117]) jF_292_3 rfl rfl) ?_
      refine Eq.trans (jr_cV (a := 117) (as := [.int 2, .int a1, .int a2]) (rest := []) (v := some (.int (-1))) (hp2 := (j_stf (j_hp (JR 21 271 0 (lv_args 0 [.ref 117, .int 0]) [] (j_hp (JR 25 25 0 (lv_args 0 [.ref 9, .int 2]) [] jh2 0 0 499 19979)) 0 0 497 19931)) 119 2 (.int 1))) (fr2 := 499) (lo2 := 19977) jF_292_4 (by decide +kernel) rfl (show j_cnd 500 20000 499 19977 4 _ _ = true from rfl) ?_) ?_
      · refine Eq.trans (jr_s (pc2 := 1) (lv2 := [(0, .ref 117), (1, .int 2), (2, .int a1), (3, .int a2)]) (st2 := [.ref 117]) jF_287_0 rfl rfl) ?_
        refine Eq.trans (jr_s (pc2 := 2) (lv2 := [(0, .ref 117), (1, .int 2), (2, .int a1), (3, .int a2)]) (st2 := [.int 0, .ref 117]) jF_287_1 rfl rfl) ?_
        refine Eq.trans (jr_s (pc2 := 3) (lv2 := [(0, .ref 117), (1, .int 2), (2, .int a1), (3, .int a2)]) (st2 := [.int 2, .int 0, .ref 117]) jF_287_2 rfl rfl) ?_
        refine Eq.trans (jr_s (pc2 := 4) (lv2 := [(0, .ref 117), (1, .int 2), (2, .int a1), (3, .int a2)]) (st2 := [.int a1, .int 2, .int 0, .ref 117]) jF_287_3 rfl rfl) ?_
        refine Eq.trans (jr_s (pc2 := 5) (lv2 := [(0, .ref 117), (1, .int 2), (2, .int a1), (3, .int a2)]) (st2 := [.int a2, .int a1, .int 2, .int 0, .ref 117]) jF_287_4 rfl rfl) ?_
        refine Eq.trans (jr_cV (a := 117) (as := [.int 0, .int 2, .int a1, .int a2]) (rest := []) (v := some (.int 0)) (hp2 := (j_hp (JR 21 271 0 (lv_args 0 [.ref 117, .int 0]) [] (j_hp (JR 25 25 0 (lv_args 0 [.ref 9, .int 2]) [] jh2 0 0 499 19979)) 0 0 497 19931))) (fr2 := 498) (lo2 := 19953) jF_287_5 (by decide +kernel) rfl (show j_cnd 499 19977 498 19953 5 _ _ = true from rfl) ?_) ?_
        · refine Eq.trans (jr_s (pc2 := 1) (lv2 := [(0, .ref 117), (1, .int 0), (2, .int 2), (3, .int a1), (4, .int a2)]) (st2 := [.ref 117]) jF_288_0 rfl rfl) ?_
          refine Eq.trans (jr_s (pc2 := 2) (lv2 := [(0, .ref 117), (1, .int 0), (2, .int 2), (3, .int a1), (4, .int a2)]) (st2 := [.int 0, .ref 117]) jF_288_1 rfl rfl) ?_
          refine Eq.trans (jr_cV (a := 117) (as := [.int 0]) (rest := []) (v := none) (hp2 := (j_hp (JR 21 271 0 (lv_args 0 [.ref 117, .int 0]) [] (j_hp (JR 25 25 0 (lv_args 0 [.ref 9, .int 2]) [] jh2 0 0 499 19979)) 0 0 497 19931))) (fr2 := 497) (lo2 := 19931) jF_288_2 (by decide +kernel) rfl (show j_cnd 498 19953 497 19931 3 _ _ = true from rfl) ?_) ?_
          · exact jr_upl (jr_cl (v := none) (by decide +kernel)) (by omega)
          refine Eq.trans (jr_s (pc2 := 6) (lv2 := [(0, .ref 117), (1, .int 0), (2, .int 2), (3, .int a1), (4, .int a2)]) (st2 := [.int a1]) jF_288_5 rfl rfl) ?_
          refine Eq.trans (jr_s (pc2 := 7) (lv2 := [(0, .ref 117), (1, .int 0), (2, .int 2), (3, .int a1), (4, .int a2)]) (st2 := [.long (Int32.toInt64 a1)]) jF_288_6 rfl rfl) ?_
          refine Eq.trans (jr_s (pc2 := 8) (lv2 := [(0, .ref 117), (1, .int 0), (2, .int 2), (3, .int a1), (4, .int a2)]) (st2 := [.long 0, .long (Int32.toInt64 a1)]) jF_288_7 rfl rfl) ?_
          refine Eq.trans (jr_s (pc2 := 9) (lv2 := [(0, .ref 117), (1, .int 0), (2, .int 2), (3, .int a1), (4, .int a2)]) (st2 := [.int 2, .long 0, .long (Int32.toInt64 a1)]) jF_288_8 rfl rfl) ?_
          refine Eq.trans (jr_if1 jF_288_9 (by decide +kernel)) ?_
          refine Eq.trans (jr_s (pc2 := 21) (lv2 := [(0, .ref 117), (1, .int 0), (2, .int 2), (3, .int a1), (4, .int a2)]) (st2 := [.ref 117, .long 0, .long (Int32.toInt64 a1)]) jF_288_20 rfl rfl) ?_
          refine Eq.trans (jr_gf (v := .int 0) jF_288_21 (by decide +kernel)) ?_
          refine Eq.trans (jr_s (pc2 := 25) (lv2 := [(0, .ref 117), (1, .int 0), (2, .int 2), (3, .int a1), (4, .int a2)]) (st2 := [.int 1, .int 0, .long 0, .long (Int32.toInt64 a1)]) jF_288_24 rfl rfl) ?_
          refine Eq.trans (jr_s (pc2 := 26) (lv2 := [(0, .ref 117), (1, .int 0), (2, .int 2), (3, .int a1), (4, .int a2)]) (st2 := [.int (-1), .long 0, .long (Int32.toInt64 a1)]) jF_288_25 rfl rfl) ?_
          refine Eq.trans (jr_s (pc2 := 27) (lv2 := [(0, .ref 117), (1, .int 0), (2, .int 2), (3, .int a1), (4, .int a2)]) (st2 := [.long (-1), .long 0, .long (Int32.toInt64 a1)]) jF_288_26 rfl rfl) ?_
          refine Eq.trans (jr_cS (as := [.long (Int32.toInt64 a1), .long 0, .long (-1)]) (rest := []) (v := some (.int 0)) (hp2 := (j_hp (JR 21 271 0 (lv_args 0 [.ref 117, .int 0]) [] (j_hp (JR 25 25 0 (lv_args 0 [.ref 9, .int 2]) [] jh2 0 0 499 19979)) 0 0 497 19931))) (fr2 := 497) (lo2 := 19928) jF_288_27 rfl (show j_cnd 498 19953 497 19928 6 _ _ = true from rfl) ?_) ?_
          · refine Eq.trans (jr_s (pc2 := 1) (lv2 := [(0, .long (Int32.toInt64 a1)), (2, .long 0), (4, .long (-1))]) (st2 := [.long (Int32.toInt64 a1)]) jF_232_0 rfl rfl) ?_
            refine Eq.trans (jr_s (pc2 := 2) (lv2 := [(0, .long (Int32.toInt64 a1)), (2, .long 0), (4, .long (-1))]) (st2 := [.long 0, .long (Int32.toInt64 a1)]) jF_232_1 rfl rfl) ?_
            refine Eq.trans (jr_s (pc2 := 3) (lv2 := [(0, .long (Int32.toInt64 a1)), (2, .long 0), (4, .long (-1))]) (st2 := [.int (lg_cmp (Int32.toInt64 a1) 0)]) jF_232_2 rfl rfl) ?_
            refine Eq.trans (jr_if1 jF_232_3 (jkl_lt_lt (show ((Int32.toInt64 a1) : Int64).toInt < (0 : Int64).toInt by rw [Int32.toInt_toInt64, show (0 : Int64).toInt = 0 from by decide]; omega))) ?_
            refine Eq.trans (jr_s (pc2 := 18) (lv2 := [(0, .long (Int32.toInt64 a1)), (2, .long 0), (4, .long (-1))]) (st2 := [.int 0]) jF_232_17 rfl rfl) ?_
            exact jr_ri jF_232_18 rfl
          refine Eq.trans (jr_if1 jF_288_30 (by decide +kernel)) ?_
          refine Eq.trans (jr_s (pc2 := 52) (lv2 := [(0, .ref 117), (1, .int 0), (2, .int 2), (3, .int a1), (4, .int a2)]) (st2 := [.int 0]) jF_288_51 rfl rfl) ?_
          exact jr_ri jF_288_52 rfl
        refine Eq.trans (jr_if1 jF_287_8 (by decide +kernel)) ?_
        refine Eq.trans (jr_s (pc2 := 19) (lv2 := [(0, .ref 117), (1, .int 2), (2, .int a1), (3, .int a2)]) (st2 := [.ref 117]) jF_287_18 rfl rfl) ?_
        refine Eq.trans (jr_gf (v := .ref 119) jF_287_19 (by decide +kernel)) ?_
        refine Eq.trans (jr_s (pc2 := 23) (lv2 := [(0, .ref 117), (1, .int 2), (2, .int a1), (3, .int a2)]) (st2 := [.int 2, .ref 119]) jF_287_22 rfl rfl) ?_
        refine Eq.trans (jr_s (pc2 := 24) (lv2 := [(0, .ref 117), (1, .int 2), (2, .int a1), (3, .int a2)]) (st2 := [.int 2, .ref 119, .int 2, .ref 119]) jF_287_23 rfl rfl) ?_
        refine Eq.trans (jr_ldi (v := .int 0) jF_287_24 (by decide +kernel)) ?_
        refine Eq.trans (jr_s (pc2 := 26) (lv2 := [(0, .ref 117), (1, .int 2), (2, .int a1), (3, .int a2)]) (st2 := [.int 1, .int 0, .int 2, .ref 119]) jF_287_25 rfl rfl) ?_
        refine Eq.trans (jr_s (pc2 := 27) (lv2 := [(0, .ref 117), (1, .int 2), (2, .int a1), (3, .int a2)]) (st2 := [.int 1, .int 2, .ref 119]) jF_287_26 rfl rfl) ?_
        refine Eq.trans (jr_sti (q := 2) jF_287_27 (by decide +kernel) (by decide +kernel)) ?_
        refine Eq.trans (jr_s (pc2 := 29) (lv2 := [(0, .ref 117), (1, .int 2), (2, .int a1), (3, .int a2)]) (st2 := [.int (-1)]) jF_287_28 rfl rfl) ?_
        exact jr_ri jF_287_29 rfl
      exact jr_ri jF_292_7 rfl
  · rcases j_ilt a1.toInt 1 with h_a1_1 | h_a1_1
    · rcases j_ilt a2.toInt 0 with h_a2_0 | h_a2_0
      · obtain rfl : a1 = 0 := Int32.toInt_inj.mp (by rw [show (0 : Int32).toInt = 0 from by decide]; omega)
        refine ⟨60000, 60000, (-1), (j_hp (JR 25 25 0 (lv_args 0 [.ref 9, .int 2]) [] jh2 0 0 499 19979)), (j_stf (j_hp (JR 21 271 0 (lv_args 0 [.ref 117, .int 0]) [] (j_hp (JR 25 25 0 (lv_args 0 [.ref 9, .int 2]) [] jh2 0 0 499 19979)) 0 0 497 19931)) 119 2 (.int 1)), ?_, ?_, by decide +kernel⟩
        · refine Eq.trans (jr_s (pc2 := 1) (lv2 := [(0, .ref 9), (1, .int 0), (2, .int a2)]) (st2 := [.ref 9]) jF_119_0 rfl rfl) ?_
          refine Eq.trans (jr_s (pc2 := 2) (lv2 := [(0, .ref 9), (1, .int 0), (2, .int a2)]) (st2 := [.int 0, .ref 9]) jF_119_1 rfl rfl) ?_
          refine Eq.trans (jr_s (pc2 := 3) (lv2 := [(0, .ref 9), (1, .int 0), (2, .int a2)]) (st2 := [.int a2, .int 0, .ref 9]) jF_119_2 rfl rfl) ?_
          refine Eq.trans (jr_cV (a := 9) (as := [.int 0, .int a2]) (rest := []) (v := some (.int 0)) (hp2 := jh2) (fr2 := 499) (lo2 := 19978) jF_119_3 (by decide +kernel) rfl (show j_cnd 500 20000 499 19978 3 _ _ = true from rfl) ?_) ?_
          · refine Eq.trans (jr_s (pc2 := 1) (lv2 := [(0, .ref 9), (1, .int 0), (2, .int a2)]) (st2 := [.int 0]) jF_115_0 rfl rfl) ?_
            refine Eq.trans (jr_if0 jF_115_1 (by decide +kernel)) ?_
            refine Eq.trans (jr_s (pc2 := 5) (lv2 := [(0, .ref 9), (1, .int 0), (2, .int a2)]) (st2 := [.int 0]) jF_115_4 rfl rfl) ?_
            refine Eq.trans (jr_s (pc2 := 6) (lv2 := [(0, .ref 9), (1, .int 0), (2, .int a2)]) (st2 := [.ref 9, .int 0]) jF_115_5 rfl rfl) ?_
            refine Eq.trans (jr_gf (v := .ref 70) jF_115_6 (by decide +kernel)) ?_
            refine Eq.trans (jr_gf (v := .int 0) jF_115_9 (by decide +kernel)) ?_
            refine Eq.trans (jr_ic0 jF_115_12 (by decide +kernel)) ?_
            refine Eq.trans (jr_s (pc2 := 16) (lv2 := [(0, .ref 9), (1, .int 0), (2, .int a2)]) (st2 := [.int a2]) jF_115_15 rfl rfl) ?_
            refine Eq.trans (jr_if1 jF_115_16 (jk_lt_lt (show (a2 : Int32).toInt < (0 : Int32).toInt by rw [show (0 : Int32).toInt = 0 from by decide]; omega))) ?_
            refine Eq.trans (jr_s (pc2 := 30) (lv2 := [(0, .ref 9), (1, .int 0), (2, .int a2)]) (st2 := [.int 0]) jF_115_29 rfl rfl) ?_
            exact jr_ri jF_115_30 rfl
          refine Eq.trans (jr_if1 jF_119_6 (by decide +kernel)) ?_
          refine Eq.trans (jr_s (pc2 := 25) (lv2 := [(0, .ref 9), (1, .int 0), (2, .int a2)]) (st2 := [.ref 9]) jF_119_24 rfl rfl) ?_
          refine Eq.trans (jr_s (pc2 := 26) (lv2 := [(0, .ref 9), (1, .int 0), (2, .int a2)]) (st2 := [.int 2, .ref 9]) jF_119_25 rfl rfl) ?_
          refine Eq.trans (jr_cV (a := 9) (as := [.int 2]) (rest := []) (v := some (.int (-1))) (hp2 := (j_hp (JR 25 25 0 (lv_args 0 [.ref 9, .int 2]) [] jh2 0 0 499 19979))) (fr2 := 499) (lo2 := 19979) jF_119_26 (by decide +kernel) rfl (show j_cnd 500 20000 499 19979 2 _ _ = true from rfl) ?_) ?_
          · exact jr_upl (jr_cl (v := some (.int (-1))) (by decide +kernel)) (by omega)
          exact jr_ri jF_119_29 rfl
        · refine Eq.trans (jr_s (pc2 := 1) (lv2 := [(0, .ref 117), (1, .int 0), (2, .int a2)]) (st2 := [.ref 117]) jF_292_0 rfl rfl) ?_
          refine Eq.trans (jr_s (pc2 := 2) (lv2 := [(0, .ref 117), (1, .int 0), (2, .int a2)]) (st2 := [.int 2, .ref 117]) jF_292_1 rfl rfl) ?_
          refine Eq.trans (jr_s (pc2 := 3) (lv2 := [(0, .ref 117), (1, .int 0), (2, .int a2)]) (st2 := [.int 0, .int 2, .ref 117]) jF_292_2 rfl rfl) ?_
          refine Eq.trans (jr_s (pc2 := 4) (lv2 := [(0, .ref 117), (1, .int 0), (2, .int a2)]) (st2 := [.int a2, .int 0, .int 2, .ref 117]) jF_292_3 rfl rfl) ?_
          refine Eq.trans (jr_cV (a := 117) (as := [.int 2, .int 0, .int a2]) (rest := []) (v := some (.int (-1))) (hp2 := (j_stf (j_hp (JR 21 271 0 (lv_args 0 [.ref 117, .int 0]) [] (j_hp (JR 25 25 0 (lv_args 0 [.ref 9, .int 2]) [] jh2 0 0 499 19979)) 0 0 497 19931)) 119 2 (.int 1))) (fr2 := 499) (lo2 := 19977) jF_292_4 (by decide +kernel) rfl (show j_cnd 500 20000 499 19977 4 _ _ = true from rfl) ?_) ?_
          · refine Eq.trans (jr_s (pc2 := 1) (lv2 := [(0, .ref 117), (1, .int 2), (2, .int 0), (3, .int a2)]) (st2 := [.ref 117]) jF_287_0 rfl rfl) ?_
            refine Eq.trans (jr_s (pc2 := 2) (lv2 := [(0, .ref 117), (1, .int 2), (2, .int 0), (3, .int a2)]) (st2 := [.int 0, .ref 117]) jF_287_1 rfl rfl) ?_
            refine Eq.trans (jr_s (pc2 := 3) (lv2 := [(0, .ref 117), (1, .int 2), (2, .int 0), (3, .int a2)]) (st2 := [.int 2, .int 0, .ref 117]) jF_287_2 rfl rfl) ?_
            refine Eq.trans (jr_s (pc2 := 4) (lv2 := [(0, .ref 117), (1, .int 2), (2, .int 0), (3, .int a2)]) (st2 := [.int 0, .int 2, .int 0, .ref 117]) jF_287_3 rfl rfl) ?_
            refine Eq.trans (jr_s (pc2 := 5) (lv2 := [(0, .ref 117), (1, .int 2), (2, .int 0), (3, .int a2)]) (st2 := [.int a2, .int 0, .int 2, .int 0, .ref 117]) jF_287_4 rfl rfl) ?_
            refine Eq.trans (jr_cV (a := 117) (as := [.int 0, .int 2, .int 0, .int a2]) (rest := []) (v := some (.int 0)) (hp2 := (j_hp (JR 21 271 0 (lv_args 0 [.ref 117, .int 0]) [] (j_hp (JR 25 25 0 (lv_args 0 [.ref 9, .int 2]) [] jh2 0 0 499 19979)) 0 0 497 19931))) (fr2 := 498) (lo2 := 19953) jF_287_5 (by decide +kernel) rfl (show j_cnd 499 19977 498 19953 5 _ _ = true from rfl) ?_) ?_
            · refine Eq.trans (jr_s (pc2 := 1) (lv2 := [(0, .ref 117), (1, .int 0), (2, .int 2), (3, .int 0), (4, .int a2)]) (st2 := [.ref 117]) jF_288_0 rfl rfl) ?_
              refine Eq.trans (jr_s (pc2 := 2) (lv2 := [(0, .ref 117), (1, .int 0), (2, .int 2), (3, .int 0), (4, .int a2)]) (st2 := [.int 0, .ref 117]) jF_288_1 rfl rfl) ?_
              refine Eq.trans (jr_cV (a := 117) (as := [.int 0]) (rest := []) (v := none) (hp2 := (j_hp (JR 21 271 0 (lv_args 0 [.ref 117, .int 0]) [] (j_hp (JR 25 25 0 (lv_args 0 [.ref 9, .int 2]) [] jh2 0 0 499 19979)) 0 0 497 19931))) (fr2 := 497) (lo2 := 19931) jF_288_2 (by decide +kernel) rfl (show j_cnd 498 19953 497 19931 3 _ _ = true from rfl) ?_) ?_
              · exact jr_upl (jr_cl (v := none) (by decide +kernel)) (by omega)
              refine Eq.trans (jr_s (pc2 := 6) (lv2 := [(0, .ref 117), (1, .int 0), (2, .int 2), (3, .int 0), (4, .int a2)]) (st2 := [.int 0]) jF_288_5 rfl rfl) ?_
              refine Eq.trans (jr_s (pc2 := 7) (lv2 := [(0, .ref 117), (1, .int 0), (2, .int 2), (3, .int 0), (4, .int a2)]) (st2 := [.long 0]) jF_288_6 rfl rfl) ?_
              refine Eq.trans (jr_s (pc2 := 8) (lv2 := [(0, .ref 117), (1, .int 0), (2, .int 2), (3, .int 0), (4, .int a2)]) (st2 := [.long 0, .long 0]) jF_288_7 rfl rfl) ?_
              refine Eq.trans (jr_s (pc2 := 9) (lv2 := [(0, .ref 117), (1, .int 0), (2, .int 2), (3, .int 0), (4, .int a2)]) (st2 := [.int 2, .long 0, .long 0]) jF_288_8 rfl rfl) ?_
              refine Eq.trans (jr_if1 jF_288_9 (by decide +kernel)) ?_
              refine Eq.trans (jr_s (pc2 := 21) (lv2 := [(0, .ref 117), (1, .int 0), (2, .int 2), (3, .int 0), (4, .int a2)]) (st2 := [.ref 117, .long 0, .long 0]) jF_288_20 rfl rfl) ?_
              refine Eq.trans (jr_gf (v := .int 0) jF_288_21 (by decide +kernel)) ?_
              refine Eq.trans (jr_s (pc2 := 25) (lv2 := [(0, .ref 117), (1, .int 0), (2, .int 2), (3, .int 0), (4, .int a2)]) (st2 := [.int 1, .int 0, .long 0, .long 0]) jF_288_24 rfl rfl) ?_
              refine Eq.trans (jr_s (pc2 := 26) (lv2 := [(0, .ref 117), (1, .int 0), (2, .int 2), (3, .int 0), (4, .int a2)]) (st2 := [.int (-1), .long 0, .long 0]) jF_288_25 rfl rfl) ?_
              refine Eq.trans (jr_s (pc2 := 27) (lv2 := [(0, .ref 117), (1, .int 0), (2, .int 2), (3, .int 0), (4, .int a2)]) (st2 := [.long (-1), .long 0, .long 0]) jF_288_26 rfl rfl) ?_
              refine Eq.trans (jr_cS (as := [.long 0, .long 0, .long (-1)]) (rest := []) (v := some (.int 0)) (hp2 := (j_hp (JR 21 271 0 (lv_args 0 [.ref 117, .int 0]) [] (j_hp (JR 25 25 0 (lv_args 0 [.ref 9, .int 2]) [] jh2 0 0 499 19979)) 0 0 497 19931))) (fr2 := 497) (lo2 := 19928) jF_288_27 rfl (show j_cnd 498 19953 497 19928 6 _ _ = true from rfl) ?_) ?_
              · refine Eq.trans (jr_s (pc2 := 1) (lv2 := [(0, .long 0), (2, .long 0), (4, .long (-1))]) (st2 := [.long 0]) jF_232_0 rfl rfl) ?_
                refine Eq.trans (jr_s (pc2 := 2) (lv2 := [(0, .long 0), (2, .long 0), (4, .long (-1))]) (st2 := [.long 0, .long 0]) jF_232_1 rfl rfl) ?_
                refine Eq.trans (jr_s (pc2 := 3) (lv2 := [(0, .long 0), (2, .long 0), (4, .long (-1))]) (st2 := [.int 0]) jF_232_2 rfl rfl) ?_
                refine Eq.trans (jr_if0 jF_232_3 (by decide +kernel)) ?_
                refine Eq.trans (jr_s (pc2 := 7) (lv2 := [(0, .long 0), (2, .long 0), (4, .long (-1))]) (st2 := [.long 0]) jF_232_6 rfl rfl) ?_
                refine Eq.trans (jr_s (pc2 := 9) (lv2 := [(0, .long 0), (2, .long 0), (4, .long (-1))]) (st2 := [.long (-1), .long 0]) jF_232_7 rfl rfl) ?_
                refine Eq.trans (jr_s (pc2 := 10) (lv2 := [(0, .long 0), (2, .long 0), (4, .long (-1))]) (st2 := [.int 1]) jF_232_9 rfl rfl) ?_
                refine Eq.trans (jr_if1 jF_232_10 (by decide +kernel)) ?_
                refine Eq.trans (jr_s (pc2 := 18) (lv2 := [(0, .long 0), (2, .long 0), (4, .long (-1))]) (st2 := [.int 0]) jF_232_17 rfl rfl) ?_
                exact jr_ri jF_232_18 rfl
              refine Eq.trans (jr_if1 jF_288_30 (by decide +kernel)) ?_
              refine Eq.trans (jr_s (pc2 := 52) (lv2 := [(0, .ref 117), (1, .int 0), (2, .int 2), (3, .int 0), (4, .int a2)]) (st2 := [.int 0]) jF_288_51 rfl rfl) ?_
              exact jr_ri jF_288_52 rfl
            refine Eq.trans (jr_if1 jF_287_8 (by decide +kernel)) ?_
            refine Eq.trans (jr_s (pc2 := 19) (lv2 := [(0, .ref 117), (1, .int 2), (2, .int 0), (3, .int a2)]) (st2 := [.ref 117]) jF_287_18 rfl rfl) ?_
            refine Eq.trans (jr_gf (v := .ref 119) jF_287_19 (by decide +kernel)) ?_
            refine Eq.trans (jr_s (pc2 := 23) (lv2 := [(0, .ref 117), (1, .int 2), (2, .int 0), (3, .int a2)]) (st2 := [.int 2, .ref 119]) jF_287_22 rfl rfl) ?_
            refine Eq.trans (jr_s (pc2 := 24) (lv2 := [(0, .ref 117), (1, .int 2), (2, .int 0), (3, .int a2)]) (st2 := [.int 2, .ref 119, .int 2, .ref 119]) jF_287_23 rfl rfl) ?_
            refine Eq.trans (jr_ldi (v := .int 0) jF_287_24 (by decide +kernel)) ?_
            refine Eq.trans (jr_s (pc2 := 26) (lv2 := [(0, .ref 117), (1, .int 2), (2, .int 0), (3, .int a2)]) (st2 := [.int 1, .int 0, .int 2, .ref 119]) jF_287_25 rfl rfl) ?_
            refine Eq.trans (jr_s (pc2 := 27) (lv2 := [(0, .ref 117), (1, .int 2), (2, .int 0), (3, .int a2)]) (st2 := [.int 1, .int 2, .ref 119]) jF_287_26 rfl rfl) ?_
            refine Eq.trans (jr_sti (q := 2) jF_287_27 (by decide +kernel) (by decide +kernel)) ?_
            refine Eq.trans (jr_s (pc2 := 29) (lv2 := [(0, .ref 117), (1, .int 2), (2, .int 0), (3, .int a2)]) (st2 := [.int (-1)]) jF_287_28 rfl rfl) ?_
            exact jr_ri jF_287_29 rfl
          exact jr_ri jF_292_7 rfl
      · rcases j_ilt a2.toInt 23 with h_a2_23 | h_a2_23
        · rcases j_ilt a2.toInt 1 with h_a2_1 | h_a2_1
          · obtain rfl : a1 = 0 := Int32.toInt_inj.mp (by rw [show (0 : Int32).toInt = 0 from by decide]; omega)
            obtain rfl : a2 = 0 := Int32.toInt_inj.mp (by rw [show (0 : Int32).toInt = 0 from by decide]; omega)
            exact jpair_ok (n1 := 100000) (n2 := 100000) (by decide +kernel)
          · rcases j_ilt a2.toInt 2 with h_a2_2 | h_a2_2
            · obtain rfl : a1 = 0 := Int32.toInt_inj.mp (by rw [show (0 : Int32).toInt = 0 from by decide]; omega)
              obtain rfl : a2 = 1 := Int32.toInt_inj.mp (by rw [show (1 : Int32).toInt = 1 from by decide]; omega)
              exact jpair_ok (n1 := 100000) (n2 := 100000) (by decide +kernel)
            · rcases j_ilt a2.toInt 3 with h_a2_3 | h_a2_3
              · obtain rfl : a1 = 0 := Int32.toInt_inj.mp (by rw [show (0 : Int32).toInt = 0 from by decide]; omega)
                obtain rfl : a2 = 2 := Int32.toInt_inj.mp (by rw [show (2 : Int32).toInt = 2 from by decide]; omega)
                exact jpair_ok (n1 := 100000) (n2 := 100000) (by decide +kernel)
              · rcases j_ilt a2.toInt 4 with h_a2_4 | h_a2_4
                · obtain rfl : a1 = 0 := Int32.toInt_inj.mp (by rw [show (0 : Int32).toInt = 0 from by decide]; omega)
                  obtain rfl : a2 = 3 := Int32.toInt_inj.mp (by rw [show (3 : Int32).toInt = 3 from by decide]; omega)
                  exact jpair_ok (n1 := 100000) (n2 := 100000) (by decide +kernel)
                · rcases j_ilt a2.toInt 5 with h_a2_5 | h_a2_5
                  · obtain rfl : a1 = 0 := Int32.toInt_inj.mp (by rw [show (0 : Int32).toInt = 0 from by decide]; omega)
                    obtain rfl : a2 = 4 := Int32.toInt_inj.mp (by rw [show (4 : Int32).toInt = 4 from by decide]; omega)
                    exact jpair_ok (n1 := 100000) (n2 := 100000) (by decide +kernel)
                  · rcases j_ilt a2.toInt 6 with h_a2_6 | h_a2_6
                    · obtain rfl : a1 = 0 := Int32.toInt_inj.mp (by rw [show (0 : Int32).toInt = 0 from by decide]; omega)
                      obtain rfl : a2 = 5 := Int32.toInt_inj.mp (by rw [show (5 : Int32).toInt = 5 from by decide]; omega)
                      exact jpair_ok (n1 := 100000) (n2 := 100000) (by decide +kernel)
                    · rcases j_ilt a2.toInt 7 with h_a2_7 | h_a2_7
                      · obtain rfl : a1 = 0 := Int32.toInt_inj.mp (by rw [show (0 : Int32).toInt = 0 from by decide]; omega)
                        obtain rfl : a2 = 6 := Int32.toInt_inj.mp (by rw [show (6 : Int32).toInt = 6 from by decide]; omega)
                        exact jpair_ok (n1 := 100000) (n2 := 100000) (by decide +kernel)
                      · rcases j_ilt a2.toInt 8 with h_a2_8 | h_a2_8
                        · obtain rfl : a1 = 0 := Int32.toInt_inj.mp (by rw [show (0 : Int32).toInt = 0 from by decide]; omega)
                          obtain rfl : a2 = 7 := Int32.toInt_inj.mp (by rw [show (7 : Int32).toInt = 7 from by decide]; omega)
                          exact jpair_ok (n1 := 100000) (n2 := 100000) (by decide +kernel)
                        · rcases j_ilt a2.toInt 9 with h_a2_9 | h_a2_9
                          · obtain rfl : a1 = 0 := Int32.toInt_inj.mp (by rw [show (0 : Int32).toInt = 0 from by decide]; omega)
                            obtain rfl : a2 = 8 := Int32.toInt_inj.mp (by rw [show (8 : Int32).toInt = 8 from by decide]; omega)
                            exact jpair_ok (n1 := 100000) (n2 := 100000) (by decide +kernel)
                          · rcases j_ilt a2.toInt 10 with h_a2_10 | h_a2_10
                            · obtain rfl : a1 = 0 := Int32.toInt_inj.mp (by rw [show (0 : Int32).toInt = 0 from by decide]; omega)
                              obtain rfl : a2 = 9 := Int32.toInt_inj.mp (by rw [show (9 : Int32).toInt = 9 from by decide]; omega)
                              exact jpair_ok (n1 := 100000) (n2 := 100000) (by decide +kernel)
                            · rcases j_ilt a2.toInt 11 with h_a2_11 | h_a2_11
                              · obtain rfl : a1 = 0 := Int32.toInt_inj.mp (by rw [show (0 : Int32).toInt = 0 from by decide]; omega)
                                obtain rfl : a2 = 10 := Int32.toInt_inj.mp (by rw [show (10 : Int32).toInt = 10 from by decide]; omega)
                                exact jpair_ok (n1 := 100000) (n2 := 100000) (by decide +kernel)
                              · rcases j_ilt a2.toInt 12 with h_a2_12 | h_a2_12
                                · obtain rfl : a1 = 0 := Int32.toInt_inj.mp (by rw [show (0 : Int32).toInt = 0 from by decide]; omega)
                                  obtain rfl : a2 = 11 := Int32.toInt_inj.mp (by rw [show (11 : Int32).toInt = 11 from by decide]; omega)
                                  exact jpair_ok (n1 := 100000) (n2 := 100000) (by decide +kernel)
                                · rcases j_ilt a2.toInt 13 with h_a2_13 | h_a2_13
                                  · obtain rfl : a1 = 0 := Int32.toInt_inj.mp (by rw [show (0 : Int32).toInt = 0 from by decide]; omega)
                                    obtain rfl : a2 = 12 := Int32.toInt_inj.mp (by rw [show (12 : Int32).toInt = 12 from by decide]; omega)
                                    exact jpair_ok (n1 := 100000) (n2 := 100000) (by decide +kernel)
                                  · rcases j_ilt a2.toInt 14 with h_a2_14 | h_a2_14
                                    · obtain rfl : a1 = 0 := Int32.toInt_inj.mp (by rw [show (0 : Int32).toInt = 0 from by decide]; omega)
                                      obtain rfl : a2 = 13 := Int32.toInt_inj.mp (by rw [show (13 : Int32).toInt = 13 from by decide]; omega)
                                      exact jpair_ok (n1 := 100000) (n2 := 100000) (by decide +kernel)
                                    · rcases j_ilt a2.toInt 15 with h_a2_15 | h_a2_15
                                      · obtain rfl : a1 = 0 := Int32.toInt_inj.mp (by rw [show (0 : Int32).toInt = 0 from by decide]; omega)
                                        obtain rfl : a2 = 14 := Int32.toInt_inj.mp (by rw [show (14 : Int32).toInt = 14 from by decide]; omega)
                                        exact jpair_ok (n1 := 100000) (n2 := 100000) (by decide +kernel)
                                      · rcases j_ilt a2.toInt 16 with h_a2_16 | h_a2_16
                                        · obtain rfl : a1 = 0 := Int32.toInt_inj.mp (by rw [show (0 : Int32).toInt = 0 from by decide]; omega)
                                          obtain rfl : a2 = 15 := Int32.toInt_inj.mp (by rw [show (15 : Int32).toInt = 15 from by decide]; omega)
                                          exact jpair_ok (n1 := 100000) (n2 := 100000) (by decide +kernel)
                                        · rcases j_ilt a2.toInt 17 with h_a2_17 | h_a2_17
                                          · obtain rfl : a1 = 0 := Int32.toInt_inj.mp (by rw [show (0 : Int32).toInt = 0 from by decide]; omega)
                                            obtain rfl : a2 = 16 := Int32.toInt_inj.mp (by rw [show (16 : Int32).toInt = 16 from by decide]; omega)
                                            exact jpair_ok (n1 := 100000) (n2 := 100000) (by decide +kernel)
                                          · rcases j_ilt a2.toInt 18 with h_a2_18 | h_a2_18
                                            · obtain rfl : a1 = 0 := Int32.toInt_inj.mp (by rw [show (0 : Int32).toInt = 0 from by decide]; omega)
                                              obtain rfl : a2 = 17 := Int32.toInt_inj.mp (by rw [show (17 : Int32).toInt = 17 from by decide]; omega)
                                              exact jpair_ok (n1 := 100000) (n2 := 100000) (by decide +kernel)
                                            · rcases j_ilt a2.toInt 19 with h_a2_19 | h_a2_19
                                              · obtain rfl : a1 = 0 := Int32.toInt_inj.mp (by rw [show (0 : Int32).toInt = 0 from by decide]; omega)
                                                obtain rfl : a2 = 18 := Int32.toInt_inj.mp (by rw [show (18 : Int32).toInt = 18 from by decide]; omega)
                                                exact jpair_ok (n1 := 100000) (n2 := 100000) (by decide +kernel)
                                              · rcases j_ilt a2.toInt 20 with h_a2_20 | h_a2_20
                                                · obtain rfl : a1 = 0 := Int32.toInt_inj.mp (by rw [show (0 : Int32).toInt = 0 from by decide]; omega)
                                                  obtain rfl : a2 = 19 := Int32.toInt_inj.mp (by rw [show (19 : Int32).toInt = 19 from by decide]; omega)
                                                  exact jpair_ok (n1 := 100000) (n2 := 100000) (by decide +kernel)
                                                · rcases j_ilt a2.toInt 21 with h_a2_21 | h_a2_21
                                                  · obtain rfl : a1 = 0 := Int32.toInt_inj.mp (by rw [show (0 : Int32).toInt = 0 from by decide]; omega)
                                                    obtain rfl : a2 = 20 := Int32.toInt_inj.mp (by rw [show (20 : Int32).toInt = 20 from by decide]; omega)
                                                    exact jpair_ok (n1 := 100000) (n2 := 100000) (by decide +kernel)
                                                  · rcases j_ilt a2.toInt 22 with h_a2_22 | h_a2_22
                                                    · obtain rfl : a1 = 0 := Int32.toInt_inj.mp (by rw [show (0 : Int32).toInt = 0 from by decide]; omega)
                                                      obtain rfl : a2 = 21 := Int32.toInt_inj.mp (by rw [show (21 : Int32).toInt = 21 from by decide]; omega)
                                                      exact jpair_ok (n1 := 100000) (n2 := 100000) (by decide +kernel)
                                                    · obtain rfl : a1 = 0 := Int32.toInt_inj.mp (by rw [show (0 : Int32).toInt = 0 from by decide]; omega)
                                                      obtain rfl : a2 = 22 := Int32.toInt_inj.mp (by rw [show (22 : Int32).toInt = 22 from by decide]; omega)
                                                      exact jpair_ok (n1 := 100000) (n2 := 100000) (by decide +kernel)
        · obtain rfl : a1 = 0 := Int32.toInt_inj.mp (by rw [show (0 : Int32).toInt = 0 from by decide]; omega)
          refine ⟨60000, 60000, (-1), (j_hp (JR 25 25 0 (lv_args 0 [.ref 9, .int 2]) [] jh2 0 0 499 19979)), (j_stf (j_hp (JR 21 271 0 (lv_args 0 [.ref 117, .int 0]) [] (j_hp (JR 25 25 0 (lv_args 0 [.ref 9, .int 2]) [] jh2 0 0 499 19979)) 0 0 497 19931)) 119 2 (.int 1)), ?_, ?_, by decide +kernel⟩
          · refine Eq.trans (jr_s (pc2 := 1) (lv2 := [(0, .ref 9), (1, .int 0), (2, .int a2)]) (st2 := [.ref 9]) jF_119_0 rfl rfl) ?_
            refine Eq.trans (jr_s (pc2 := 2) (lv2 := [(0, .ref 9), (1, .int 0), (2, .int a2)]) (st2 := [.int 0, .ref 9]) jF_119_1 rfl rfl) ?_
            refine Eq.trans (jr_s (pc2 := 3) (lv2 := [(0, .ref 9), (1, .int 0), (2, .int a2)]) (st2 := [.int a2, .int 0, .ref 9]) jF_119_2 rfl rfl) ?_
            refine Eq.trans (jr_cV (a := 9) (as := [.int 0, .int a2]) (rest := []) (v := some (.int 0)) (hp2 := jh2) (fr2 := 499) (lo2 := 19978) jF_119_3 (by decide +kernel) rfl (show j_cnd 500 20000 499 19978 3 _ _ = true from rfl) ?_) ?_
            · refine Eq.trans (jr_s (pc2 := 1) (lv2 := [(0, .ref 9), (1, .int 0), (2, .int a2)]) (st2 := [.int 0]) jF_115_0 rfl rfl) ?_
              refine Eq.trans (jr_if0 jF_115_1 (by decide +kernel)) ?_
              refine Eq.trans (jr_s (pc2 := 5) (lv2 := [(0, .ref 9), (1, .int 0), (2, .int a2)]) (st2 := [.int 0]) jF_115_4 rfl rfl) ?_
              refine Eq.trans (jr_s (pc2 := 6) (lv2 := [(0, .ref 9), (1, .int 0), (2, .int a2)]) (st2 := [.ref 9, .int 0]) jF_115_5 rfl rfl) ?_
              refine Eq.trans (jr_gf (v := .ref 70) jF_115_6 (by decide +kernel)) ?_
              refine Eq.trans (jr_gf (v := .int 0) jF_115_9 (by decide +kernel)) ?_
              refine Eq.trans (jr_ic0 jF_115_12 (by decide +kernel)) ?_
              refine Eq.trans (jr_s (pc2 := 16) (lv2 := [(0, .ref 9), (1, .int 0), (2, .int a2)]) (st2 := [.int a2]) jF_115_15 rfl rfl) ?_
              refine Eq.trans (jr_if0 jF_115_16 (jk_lt_ge (show (0 : Int32).toInt ≤ (a2 : Int32).toInt by rw [show (0 : Int32).toInt = 0 from by decide]; omega))) ?_
              refine Eq.trans (jr_s (pc2 := 20) (lv2 := [(0, .ref 9), (1, .int 0), (2, .int a2)]) (st2 := [.int a2]) jF_115_19 rfl rfl) ?_
              refine Eq.trans (jr_s (pc2 := 22) (lv2 := [(0, .ref 9), (1, .int 0), (2, .int a2)]) (st2 := [.int 23, .int a2]) jF_115_20 rfl rfl) ?_
              refine Eq.trans (jr_ic1 jF_115_22 (jk_ge_ge (show (23 : Int32).toInt ≤ (a2 : Int32).toInt by rw [show (23 : Int32).toInt = 23 from by decide]; omega))) ?_
              refine Eq.trans (jr_s (pc2 := 30) (lv2 := [(0, .ref 9), (1, .int 0), (2, .int a2)]) (st2 := [.int 0]) jF_115_29 rfl rfl) ?_
              exact jr_ri jF_115_30 rfl
            refine Eq.trans (jr_if1 jF_119_6 (by decide +kernel)) ?_
            refine Eq.trans (jr_s (pc2 := 25) (lv2 := [(0, .ref 9), (1, .int 0), (2, .int a2)]) (st2 := [.ref 9]) jF_119_24 rfl rfl) ?_
            refine Eq.trans (jr_s (pc2 := 26) (lv2 := [(0, .ref 9), (1, .int 0), (2, .int a2)]) (st2 := [.int 2, .ref 9]) jF_119_25 rfl rfl) ?_
            refine Eq.trans (jr_cV (a := 9) (as := [.int 2]) (rest := []) (v := some (.int (-1))) (hp2 := (j_hp (JR 25 25 0 (lv_args 0 [.ref 9, .int 2]) [] jh2 0 0 499 19979))) (fr2 := 499) (lo2 := 19979) jF_119_26 (by decide +kernel) rfl (show j_cnd 500 20000 499 19979 2 _ _ = true from rfl) ?_) ?_
            · exact jr_upl (jr_cl (v := some (.int (-1))) (by decide +kernel)) (by omega)
            exact jr_ri jF_119_29 rfl
          · refine Eq.trans (jr_s (pc2 := 1) (lv2 := [(0, .ref 117), (1, .int 0), (2, .int a2)]) (st2 := [.ref 117]) jF_292_0 rfl rfl) ?_
            refine Eq.trans (jr_s (pc2 := 2) (lv2 := [(0, .ref 117), (1, .int 0), (2, .int a2)]) (st2 := [.int 2, .ref 117]) jF_292_1 rfl rfl) ?_
            refine Eq.trans (jr_s (pc2 := 3) (lv2 := [(0, .ref 117), (1, .int 0), (2, .int a2)]) (st2 := [.int 0, .int 2, .ref 117]) jF_292_2 rfl rfl) ?_
            refine Eq.trans (jr_s (pc2 := 4) (lv2 := [(0, .ref 117), (1, .int 0), (2, .int a2)]) (st2 := [.int a2, .int 0, .int 2, .ref 117]) jF_292_3 rfl rfl) ?_
            refine Eq.trans (jr_cV (a := 117) (as := [.int 2, .int 0, .int a2]) (rest := []) (v := some (.int (-1))) (hp2 := (j_stf (j_hp (JR 21 271 0 (lv_args 0 [.ref 117, .int 0]) [] (j_hp (JR 25 25 0 (lv_args 0 [.ref 9, .int 2]) [] jh2 0 0 499 19979)) 0 0 497 19931)) 119 2 (.int 1))) (fr2 := 499) (lo2 := 19977) jF_292_4 (by decide +kernel) rfl (show j_cnd 500 20000 499 19977 4 _ _ = true from rfl) ?_) ?_
            · refine Eq.trans (jr_s (pc2 := 1) (lv2 := [(0, .ref 117), (1, .int 2), (2, .int 0), (3, .int a2)]) (st2 := [.ref 117]) jF_287_0 rfl rfl) ?_
              refine Eq.trans (jr_s (pc2 := 2) (lv2 := [(0, .ref 117), (1, .int 2), (2, .int 0), (3, .int a2)]) (st2 := [.int 0, .ref 117]) jF_287_1 rfl rfl) ?_
              refine Eq.trans (jr_s (pc2 := 3) (lv2 := [(0, .ref 117), (1, .int 2), (2, .int 0), (3, .int a2)]) (st2 := [.int 2, .int 0, .ref 117]) jF_287_2 rfl rfl) ?_
              refine Eq.trans (jr_s (pc2 := 4) (lv2 := [(0, .ref 117), (1, .int 2), (2, .int 0), (3, .int a2)]) (st2 := [.int 0, .int 2, .int 0, .ref 117]) jF_287_3 rfl rfl) ?_
              refine Eq.trans (jr_s (pc2 := 5) (lv2 := [(0, .ref 117), (1, .int 2), (2, .int 0), (3, .int a2)]) (st2 := [.int a2, .int 0, .int 2, .int 0, .ref 117]) jF_287_4 rfl rfl) ?_
              refine Eq.trans (jr_cV (a := 117) (as := [.int 0, .int 2, .int 0, .int a2]) (rest := []) (v := some (.int 0)) (hp2 := (j_hp (JR 21 271 0 (lv_args 0 [.ref 117, .int 0]) [] (j_hp (JR 25 25 0 (lv_args 0 [.ref 9, .int 2]) [] jh2 0 0 499 19979)) 0 0 497 19931))) (fr2 := 498) (lo2 := 19953) jF_287_5 (by decide +kernel) rfl (show j_cnd 499 19977 498 19953 5 _ _ = true from rfl) ?_) ?_
              · refine Eq.trans (jr_s (pc2 := 1) (lv2 := [(0, .ref 117), (1, .int 0), (2, .int 2), (3, .int 0), (4, .int a2)]) (st2 := [.ref 117]) jF_288_0 rfl rfl) ?_
                refine Eq.trans (jr_s (pc2 := 2) (lv2 := [(0, .ref 117), (1, .int 0), (2, .int 2), (3, .int 0), (4, .int a2)]) (st2 := [.int 0, .ref 117]) jF_288_1 rfl rfl) ?_
                refine Eq.trans (jr_cV (a := 117) (as := [.int 0]) (rest := []) (v := none) (hp2 := (j_hp (JR 21 271 0 (lv_args 0 [.ref 117, .int 0]) [] (j_hp (JR 25 25 0 (lv_args 0 [.ref 9, .int 2]) [] jh2 0 0 499 19979)) 0 0 497 19931))) (fr2 := 497) (lo2 := 19931) jF_288_2 (by decide +kernel) rfl (show j_cnd 498 19953 497 19931 3 _ _ = true from rfl) ?_) ?_
                · exact jr_upl (jr_cl (v := none) (by decide +kernel)) (by omega)
                refine Eq.trans (jr_s (pc2 := 6) (lv2 := [(0, .ref 117), (1, .int 0), (2, .int 2), (3, .int 0), (4, .int a2)]) (st2 := [.int 0]) jF_288_5 rfl rfl) ?_
                refine Eq.trans (jr_s (pc2 := 7) (lv2 := [(0, .ref 117), (1, .int 0), (2, .int 2), (3, .int 0), (4, .int a2)]) (st2 := [.long 0]) jF_288_6 rfl rfl) ?_
                refine Eq.trans (jr_s (pc2 := 8) (lv2 := [(0, .ref 117), (1, .int 0), (2, .int 2), (3, .int 0), (4, .int a2)]) (st2 := [.long 0, .long 0]) jF_288_7 rfl rfl) ?_
                refine Eq.trans (jr_s (pc2 := 9) (lv2 := [(0, .ref 117), (1, .int 0), (2, .int 2), (3, .int 0), (4, .int a2)]) (st2 := [.int 2, .long 0, .long 0]) jF_288_8 rfl rfl) ?_
                refine Eq.trans (jr_if1 jF_288_9 (by decide +kernel)) ?_
                refine Eq.trans (jr_s (pc2 := 21) (lv2 := [(0, .ref 117), (1, .int 0), (2, .int 2), (3, .int 0), (4, .int a2)]) (st2 := [.ref 117, .long 0, .long 0]) jF_288_20 rfl rfl) ?_
                refine Eq.trans (jr_gf (v := .int 0) jF_288_21 (by decide +kernel)) ?_
                refine Eq.trans (jr_s (pc2 := 25) (lv2 := [(0, .ref 117), (1, .int 0), (2, .int 2), (3, .int 0), (4, .int a2)]) (st2 := [.int 1, .int 0, .long 0, .long 0]) jF_288_24 rfl rfl) ?_
                refine Eq.trans (jr_s (pc2 := 26) (lv2 := [(0, .ref 117), (1, .int 0), (2, .int 2), (3, .int 0), (4, .int a2)]) (st2 := [.int (-1), .long 0, .long 0]) jF_288_25 rfl rfl) ?_
                refine Eq.trans (jr_s (pc2 := 27) (lv2 := [(0, .ref 117), (1, .int 0), (2, .int 2), (3, .int 0), (4, .int a2)]) (st2 := [.long (-1), .long 0, .long 0]) jF_288_26 rfl rfl) ?_
                refine Eq.trans (jr_cS (as := [.long 0, .long 0, .long (-1)]) (rest := []) (v := some (.int 0)) (hp2 := (j_hp (JR 21 271 0 (lv_args 0 [.ref 117, .int 0]) [] (j_hp (JR 25 25 0 (lv_args 0 [.ref 9, .int 2]) [] jh2 0 0 499 19979)) 0 0 497 19931))) (fr2 := 497) (lo2 := 19928) jF_288_27 rfl (show j_cnd 498 19953 497 19928 6 _ _ = true from rfl) ?_) ?_
                · refine Eq.trans (jr_s (pc2 := 1) (lv2 := [(0, .long 0), (2, .long 0), (4, .long (-1))]) (st2 := [.long 0]) jF_232_0 rfl rfl) ?_
                  refine Eq.trans (jr_s (pc2 := 2) (lv2 := [(0, .long 0), (2, .long 0), (4, .long (-1))]) (st2 := [.long 0, .long 0]) jF_232_1 rfl rfl) ?_
                  refine Eq.trans (jr_s (pc2 := 3) (lv2 := [(0, .long 0), (2, .long 0), (4, .long (-1))]) (st2 := [.int 0]) jF_232_2 rfl rfl) ?_
                  refine Eq.trans (jr_if0 jF_232_3 (by decide +kernel)) ?_
                  refine Eq.trans (jr_s (pc2 := 7) (lv2 := [(0, .long 0), (2, .long 0), (4, .long (-1))]) (st2 := [.long 0]) jF_232_6 rfl rfl) ?_
                  refine Eq.trans (jr_s (pc2 := 9) (lv2 := [(0, .long 0), (2, .long 0), (4, .long (-1))]) (st2 := [.long (-1), .long 0]) jF_232_7 rfl rfl) ?_
                  refine Eq.trans (jr_s (pc2 := 10) (lv2 := [(0, .long 0), (2, .long 0), (4, .long (-1))]) (st2 := [.int 1]) jF_232_9 rfl rfl) ?_
                  refine Eq.trans (jr_if1 jF_232_10 (by decide +kernel)) ?_
                  refine Eq.trans (jr_s (pc2 := 18) (lv2 := [(0, .long 0), (2, .long 0), (4, .long (-1))]) (st2 := [.int 0]) jF_232_17 rfl rfl) ?_
                  exact jr_ri jF_232_18 rfl
                refine Eq.trans (jr_if1 jF_288_30 (by decide +kernel)) ?_
                refine Eq.trans (jr_s (pc2 := 52) (lv2 := [(0, .ref 117), (1, .int 0), (2, .int 2), (3, .int 0), (4, .int a2)]) (st2 := [.int 0]) jF_288_51 rfl rfl) ?_
                exact jr_ri jF_288_52 rfl
              refine Eq.trans (jr_if1 jF_287_8 (by decide +kernel)) ?_
              refine Eq.trans (jr_s (pc2 := 19) (lv2 := [(0, .ref 117), (1, .int 2), (2, .int 0), (3, .int a2)]) (st2 := [.ref 117]) jF_287_18 rfl rfl) ?_
              refine Eq.trans (jr_gf (v := .ref 119) jF_287_19 (by decide +kernel)) ?_
              refine Eq.trans (jr_s (pc2 := 23) (lv2 := [(0, .ref 117), (1, .int 2), (2, .int 0), (3, .int a2)]) (st2 := [.int 2, .ref 119]) jF_287_22 rfl rfl) ?_
              refine Eq.trans (jr_s (pc2 := 24) (lv2 := [(0, .ref 117), (1, .int 2), (2, .int 0), (3, .int a2)]) (st2 := [.int 2, .ref 119, .int 2, .ref 119]) jF_287_23 rfl rfl) ?_
              refine Eq.trans (jr_ldi (v := .int 0) jF_287_24 (by decide +kernel)) ?_
              refine Eq.trans (jr_s (pc2 := 26) (lv2 := [(0, .ref 117), (1, .int 2), (2, .int 0), (3, .int a2)]) (st2 := [.int 1, .int 0, .int 2, .ref 119]) jF_287_25 rfl rfl) ?_
              refine Eq.trans (jr_s (pc2 := 27) (lv2 := [(0, .ref 117), (1, .int 2), (2, .int 0), (3, .int a2)]) (st2 := [.int 1, .int 2, .ref 119]) jF_287_26 rfl rfl) ?_
              refine Eq.trans (jr_sti (q := 2) jF_287_27 (by decide +kernel) (by decide +kernel)) ?_
              refine Eq.trans (jr_s (pc2 := 29) (lv2 := [(0, .ref 117), (1, .int 2), (2, .int 0), (3, .int a2)]) (st2 := [.int (-1)]) jF_287_28 rfl rfl) ?_
              exact jr_ri jF_287_29 rfl
            exact jr_ri jF_292_7 rfl
    · refine ⟨60000, 60000, (-1), (j_hp (JR 25 25 0 (lv_args 0 [.ref 9, .int 2]) [] jh2 0 0 499 19979)), (j_stf (j_hp (JR 21 271 0 (lv_args 0 [.ref 117, .int 0]) [] (j_hp (JR 25 25 0 (lv_args 0 [.ref 9, .int 2]) [] jh2 0 0 499 19979)) 0 0 497 19931)) 119 2 (.int 1)), ?_, ?_, by decide +kernel⟩
      · refine Eq.trans (jr_s (pc2 := 1) (lv2 := [(0, .ref 9), (1, .int a1), (2, .int a2)]) (st2 := [.ref 9]) jF_119_0 rfl rfl) ?_
        refine Eq.trans (jr_s (pc2 := 2) (lv2 := [(0, .ref 9), (1, .int a1), (2, .int a2)]) (st2 := [.int a1, .ref 9]) jF_119_1 rfl rfl) ?_
        refine Eq.trans (jr_s (pc2 := 3) (lv2 := [(0, .ref 9), (1, .int a1), (2, .int a2)]) (st2 := [.int a2, .int a1, .ref 9]) jF_119_2 rfl rfl) ?_
        refine Eq.trans (jr_cV (a := 9) (as := [.int a1, .int a2]) (rest := []) (v := some (.int 0)) (hp2 := jh2) (fr2 := 499) (lo2 := 19978) jF_119_3 (by decide +kernel) rfl (show j_cnd 500 20000 499 19978 3 _ _ = true from rfl) ?_) ?_
        · refine Eq.trans (jr_s (pc2 := 1) (lv2 := [(0, .ref 9), (1, .int a1), (2, .int a2)]) (st2 := [.int a1]) jF_115_0 rfl rfl) ?_
          refine Eq.trans (jr_if0 jF_115_1 (jk_lt_ge (show (0 : Int32).toInt ≤ (a1 : Int32).toInt by rw [show (0 : Int32).toInt = 0 from by decide]; omega))) ?_
          refine Eq.trans (jr_s (pc2 := 5) (lv2 := [(0, .ref 9), (1, .int a1), (2, .int a2)]) (st2 := [.int a1]) jF_115_4 rfl rfl) ?_
          refine Eq.trans (jr_s (pc2 := 6) (lv2 := [(0, .ref 9), (1, .int a1), (2, .int a2)]) (st2 := [.ref 9, .int a1]) jF_115_5 rfl rfl) ?_
          refine Eq.trans (jr_gf (v := .ref 70) jF_115_6 (by decide +kernel)) ?_
          refine Eq.trans (jr_gf (v := .int 0) jF_115_9 (by decide +kernel)) ?_
          refine Eq.trans (jr_ic1 jF_115_12 (jk_gt_gt (show (0 : Int32).toInt < (a1 : Int32).toInt by rw [show (0 : Int32).toInt = 0 from by decide]; omega))) ?_
          refine Eq.trans (jr_s (pc2 := 30) (lv2 := [(0, .ref 9), (1, .int a1), (2, .int a2)]) (st2 := [.int 0]) jF_115_29 rfl rfl) ?_
          exact jr_ri jF_115_30 rfl
        refine Eq.trans (jr_if1 jF_119_6 (by decide +kernel)) ?_
        refine Eq.trans (jr_s (pc2 := 25) (lv2 := [(0, .ref 9), (1, .int a1), (2, .int a2)]) (st2 := [.ref 9]) jF_119_24 rfl rfl) ?_
        refine Eq.trans (jr_s (pc2 := 26) (lv2 := [(0, .ref 9), (1, .int a1), (2, .int a2)]) (st2 := [.int 2, .ref 9]) jF_119_25 rfl rfl) ?_
        refine Eq.trans (jr_cV (a := 9) (as := [.int 2]) (rest := []) (v := some (.int (-1))) (hp2 := (j_hp (JR 25 25 0 (lv_args 0 [.ref 9, .int 2]) [] jh2 0 0 499 19979))) (fr2 := 499) (lo2 := 19979) jF_119_26 (by decide +kernel) rfl (show j_cnd 500 20000 499 19979 2 _ _ = true from rfl) ?_) ?_
        · exact jr_upl (jr_cl (v := some (.int (-1))) (by decide +kernel)) (by omega)
        exact jr_ri jF_119_29 rfl
      · refine Eq.trans (jr_s (pc2 := 1) (lv2 := [(0, .ref 117), (1, .int a1), (2, .int a2)]) (st2 := [.ref 117]) jF_292_0 rfl rfl) ?_
        refine Eq.trans (jr_s (pc2 := 2) (lv2 := [(0, .ref 117), (1, .int a1), (2, .int a2)]) (st2 := [.int 2, .ref 117]) jF_292_1 rfl rfl) ?_
        refine Eq.trans (jr_s (pc2 := 3) (lv2 := [(0, .ref 117), (1, .int a1), (2, .int a2)]) (st2 := [.int a1, .int 2, .ref 117]) jF_292_2 rfl rfl) ?_
        refine Eq.trans (jr_s (pc2 := 4) (lv2 := [(0, .ref 117), (1, .int a1), (2, .int a2)]) (st2 := [.int a2, .int a1, .int 2, .ref 117]) jF_292_3 rfl rfl) ?_
        refine Eq.trans (jr_cV (a := 117) (as := [.int 2, .int a1, .int a2]) (rest := []) (v := some (.int (-1))) (hp2 := (j_stf (j_hp (JR 21 271 0 (lv_args 0 [.ref 117, .int 0]) [] (j_hp (JR 25 25 0 (lv_args 0 [.ref 9, .int 2]) [] jh2 0 0 499 19979)) 0 0 497 19931)) 119 2 (.int 1))) (fr2 := 499) (lo2 := 19977) jF_292_4 (by decide +kernel) rfl (show j_cnd 500 20000 499 19977 4 _ _ = true from rfl) ?_) ?_
        · refine Eq.trans (jr_s (pc2 := 1) (lv2 := [(0, .ref 117), (1, .int 2), (2, .int a1), (3, .int a2)]) (st2 := [.ref 117]) jF_287_0 rfl rfl) ?_
          refine Eq.trans (jr_s (pc2 := 2) (lv2 := [(0, .ref 117), (1, .int 2), (2, .int a1), (3, .int a2)]) (st2 := [.int 0, .ref 117]) jF_287_1 rfl rfl) ?_
          refine Eq.trans (jr_s (pc2 := 3) (lv2 := [(0, .ref 117), (1, .int 2), (2, .int a1), (3, .int a2)]) (st2 := [.int 2, .int 0, .ref 117]) jF_287_2 rfl rfl) ?_
          refine Eq.trans (jr_s (pc2 := 4) (lv2 := [(0, .ref 117), (1, .int 2), (2, .int a1), (3, .int a2)]) (st2 := [.int a1, .int 2, .int 0, .ref 117]) jF_287_3 rfl rfl) ?_
          refine Eq.trans (jr_s (pc2 := 5) (lv2 := [(0, .ref 117), (1, .int 2), (2, .int a1), (3, .int a2)]) (st2 := [.int a2, .int a1, .int 2, .int 0, .ref 117]) jF_287_4 rfl rfl) ?_
          refine Eq.trans (jr_cV (a := 117) (as := [.int 0, .int 2, .int a1, .int a2]) (rest := []) (v := some (.int 0)) (hp2 := (j_hp (JR 21 271 0 (lv_args 0 [.ref 117, .int 0]) [] (j_hp (JR 25 25 0 (lv_args 0 [.ref 9, .int 2]) [] jh2 0 0 499 19979)) 0 0 497 19931))) (fr2 := 498) (lo2 := 19953) jF_287_5 (by decide +kernel) rfl (show j_cnd 499 19977 498 19953 5 _ _ = true from rfl) ?_) ?_
          · refine Eq.trans (jr_s (pc2 := 1) (lv2 := [(0, .ref 117), (1, .int 0), (2, .int 2), (3, .int a1), (4, .int a2)]) (st2 := [.ref 117]) jF_288_0 rfl rfl) ?_
            refine Eq.trans (jr_s (pc2 := 2) (lv2 := [(0, .ref 117), (1, .int 0), (2, .int 2), (3, .int a1), (4, .int a2)]) (st2 := [.int 0, .ref 117]) jF_288_1 rfl rfl) ?_
            refine Eq.trans (jr_cV (a := 117) (as := [.int 0]) (rest := []) (v := none) (hp2 := (j_hp (JR 21 271 0 (lv_args 0 [.ref 117, .int 0]) [] (j_hp (JR 25 25 0 (lv_args 0 [.ref 9, .int 2]) [] jh2 0 0 499 19979)) 0 0 497 19931))) (fr2 := 497) (lo2 := 19931) jF_288_2 (by decide +kernel) rfl (show j_cnd 498 19953 497 19931 3 _ _ = true from rfl) ?_) ?_
            · exact jr_upl (jr_cl (v := none) (by decide +kernel)) (by omega)
            refine Eq.trans (jr_s (pc2 := 6) (lv2 := [(0, .ref 117), (1, .int 0), (2, .int 2), (3, .int a1), (4, .int a2)]) (st2 := [.int a1]) jF_288_5 rfl rfl) ?_
            refine Eq.trans (jr_s (pc2 := 7) (lv2 := [(0, .ref 117), (1, .int 0), (2, .int 2), (3, .int a1), (4, .int a2)]) (st2 := [.long (Int32.toInt64 a1)]) jF_288_6 rfl rfl) ?_
            refine Eq.trans (jr_s (pc2 := 8) (lv2 := [(0, .ref 117), (1, .int 0), (2, .int 2), (3, .int a1), (4, .int a2)]) (st2 := [.long 0, .long (Int32.toInt64 a1)]) jF_288_7 rfl rfl) ?_
            refine Eq.trans (jr_s (pc2 := 9) (lv2 := [(0, .ref 117), (1, .int 0), (2, .int 2), (3, .int a1), (4, .int a2)]) (st2 := [.int 2, .long 0, .long (Int32.toInt64 a1)]) jF_288_8 rfl rfl) ?_
            refine Eq.trans (jr_if1 jF_288_9 (by decide +kernel)) ?_
            refine Eq.trans (jr_s (pc2 := 21) (lv2 := [(0, .ref 117), (1, .int 0), (2, .int 2), (3, .int a1), (4, .int a2)]) (st2 := [.ref 117, .long 0, .long (Int32.toInt64 a1)]) jF_288_20 rfl rfl) ?_
            refine Eq.trans (jr_gf (v := .int 0) jF_288_21 (by decide +kernel)) ?_
            refine Eq.trans (jr_s (pc2 := 25) (lv2 := [(0, .ref 117), (1, .int 0), (2, .int 2), (3, .int a1), (4, .int a2)]) (st2 := [.int 1, .int 0, .long 0, .long (Int32.toInt64 a1)]) jF_288_24 rfl rfl) ?_
            refine Eq.trans (jr_s (pc2 := 26) (lv2 := [(0, .ref 117), (1, .int 0), (2, .int 2), (3, .int a1), (4, .int a2)]) (st2 := [.int (-1), .long 0, .long (Int32.toInt64 a1)]) jF_288_25 rfl rfl) ?_
            refine Eq.trans (jr_s (pc2 := 27) (lv2 := [(0, .ref 117), (1, .int 0), (2, .int 2), (3, .int a1), (4, .int a2)]) (st2 := [.long (-1), .long 0, .long (Int32.toInt64 a1)]) jF_288_26 rfl rfl) ?_
            refine Eq.trans (jr_cS (as := [.long (Int32.toInt64 a1), .long 0, .long (-1)]) (rest := []) (v := some (.int 0)) (hp2 := (j_hp (JR 21 271 0 (lv_args 0 [.ref 117, .int 0]) [] (j_hp (JR 25 25 0 (lv_args 0 [.ref 9, .int 2]) [] jh2 0 0 499 19979)) 0 0 497 19931))) (fr2 := 497) (lo2 := 19928) jF_288_27 rfl (show j_cnd 498 19953 497 19928 6 _ _ = true from rfl) ?_) ?_
            · refine Eq.trans (jr_s (pc2 := 1) (lv2 := [(0, .long (Int32.toInt64 a1)), (2, .long 0), (4, .long (-1))]) (st2 := [.long (Int32.toInt64 a1)]) jF_232_0 rfl rfl) ?_
              refine Eq.trans (jr_s (pc2 := 2) (lv2 := [(0, .long (Int32.toInt64 a1)), (2, .long 0), (4, .long (-1))]) (st2 := [.long 0, .long (Int32.toInt64 a1)]) jF_232_1 rfl rfl) ?_
              refine Eq.trans (jr_s (pc2 := 3) (lv2 := [(0, .long (Int32.toInt64 a1)), (2, .long 0), (4, .long (-1))]) (st2 := [.int (lg_cmp (Int32.toInt64 a1) 0)]) jF_232_2 rfl rfl) ?_
              refine Eq.trans (jr_if0 jF_232_3 (jkl_lt_ge (show (0 : Int64).toInt ≤ ((Int32.toInt64 a1) : Int64).toInt by rw [Int32.toInt_toInt64, show (0 : Int64).toInt = 0 from by decide]; omega))) ?_
              refine Eq.trans (jr_s (pc2 := 7) (lv2 := [(0, .long (Int32.toInt64 a1)), (2, .long 0), (4, .long (-1))]) (st2 := [.long (Int32.toInt64 a1)]) jF_232_6 rfl rfl) ?_
              refine Eq.trans (jr_s (pc2 := 9) (lv2 := [(0, .long (Int32.toInt64 a1)), (2, .long 0), (4, .long (-1))]) (st2 := [.long (-1), .long (Int32.toInt64 a1)]) jF_232_7 rfl rfl) ?_
              refine Eq.trans (jr_s (pc2 := 10) (lv2 := [(0, .long (Int32.toInt64 a1)), (2, .long 0), (4, .long (-1))]) (st2 := [.int (lg_cmp (Int32.toInt64 a1) (-1))]) jF_232_9 rfl rfl) ?_
              refine Eq.trans (jr_if1 jF_232_10 (jkl_gt_gt (show ((-1) : Int64).toInt < ((Int32.toInt64 a1) : Int64).toInt by rw [Int32.toInt_toInt64, show ((-1) : Int64).toInt = (-1) from by decide]; omega))) ?_
              refine Eq.trans (jr_s (pc2 := 18) (lv2 := [(0, .long (Int32.toInt64 a1)), (2, .long 0), (4, .long (-1))]) (st2 := [.int 0]) jF_232_17 rfl rfl) ?_
              exact jr_ri jF_232_18 rfl
            refine Eq.trans (jr_if1 jF_288_30 (by decide +kernel)) ?_
            refine Eq.trans (jr_s (pc2 := 52) (lv2 := [(0, .ref 117), (1, .int 0), (2, .int 2), (3, .int a1), (4, .int a2)]) (st2 := [.int 0]) jF_288_51 rfl rfl) ?_
            exact jr_ri jF_288_52 rfl
          refine Eq.trans (jr_if1 jF_287_8 (by decide +kernel)) ?_
          refine Eq.trans (jr_s (pc2 := 19) (lv2 := [(0, .ref 117), (1, .int 2), (2, .int a1), (3, .int a2)]) (st2 := [.ref 117]) jF_287_18 rfl rfl) ?_
          refine Eq.trans (jr_gf (v := .ref 119) jF_287_19 (by decide +kernel)) ?_
          refine Eq.trans (jr_s (pc2 := 23) (lv2 := [(0, .ref 117), (1, .int 2), (2, .int a1), (3, .int a2)]) (st2 := [.int 2, .ref 119]) jF_287_22 rfl rfl) ?_
          refine Eq.trans (jr_s (pc2 := 24) (lv2 := [(0, .ref 117), (1, .int 2), (2, .int a1), (3, .int a2)]) (st2 := [.int 2, .ref 119, .int 2, .ref 119]) jF_287_23 rfl rfl) ?_
          refine Eq.trans (jr_ldi (v := .int 0) jF_287_24 (by decide +kernel)) ?_
          refine Eq.trans (jr_s (pc2 := 26) (lv2 := [(0, .ref 117), (1, .int 2), (2, .int a1), (3, .int a2)]) (st2 := [.int 1, .int 0, .int 2, .ref 119]) jF_287_25 rfl rfl) ?_
          refine Eq.trans (jr_s (pc2 := 27) (lv2 := [(0, .ref 117), (1, .int 2), (2, .int a1), (3, .int a2)]) (st2 := [.int 1, .int 2, .ref 119]) jF_287_26 rfl rfl) ?_
          refine Eq.trans (jr_sti (q := 2) jF_287_27 (by decide +kernel) (by decide +kernel)) ?_
          refine Eq.trans (jr_s (pc2 := 29) (lv2 := [(0, .ref 117), (1, .int 2), (2, .int a1), (3, .int a2)]) (st2 := [.int (-1)]) jF_287_28 rfl rfl) ?_
          exact jr_ri jF_287_29 rfl
        exact jr_ri jF_292_7 rfl
