set_option maxHeartbeats 8000000 in
set_option maxRecDepth 100000 in
theorem pm_letter_L89 (a2 : Int32) (hl_a2 : 6 ≤ a2.toInt) (hh_a2 : a2.toInt ≤ 2147483647) : PM 92 266 [.int 18, .int a2] := by
  refine ⟨60000, 60000, (-1), jh2, jh2, ?_, ?_, by decide +kernel⟩
  · refine Eq.trans (jr_s (pc2 := 1) (lv2 := [(0, .ref 9), (1, .int 18), (2, .int a2)]) (st2 := [.ref 9]) jF_92_0 rfl rfl) ?_
    refine Eq.trans (jr_gf (v := .ref 20) jF_92_1 (by decide +kernel)) ?_
    refine Eq.trans (jr_s (pc2 := 5) (lv2 := [(0, .ref 9), (1, .int 18), (2, .int a2)]) (st2 := [.int 18, .ref 20]) jF_92_4 rfl rfl) ?_
    refine Eq.trans (jr_s (pc2 := 6) (lv2 := [(0, .ref 9), (1, .int 18), (2, .int a2)]) (st2 := [.int a2, .int 18, .ref 20]) jF_92_5 rfl rfl) ?_
    refine Eq.trans (jr_cV (a := 20) (as := [.int 18, .int a2]) (rest := []) (v := some (.int (-1))) (hp2 := jh2) (fr2 := 499) (lo2 := 19978) jF_92_6 (by decide +kernel) rfl (show j_cnd 500 20000 499 19978 3 _ _ = true from rfl) ?_) ?_
    · refine Eq.trans (jr_s (pc2 := 1) (lv2 := [(0, .ref 20), (1, .int 18), (2, .int a2)]) (st2 := [.int 18]) jF_93_0 rfl rfl) ?_
      refine Eq.trans (jr_if0 jF_93_1 (by decide +kernel)) ?_
      refine Eq.trans (jr_s (pc2 := 5) (lv2 := [(0, .ref 20), (1, .int 18), (2, .int a2)]) (st2 := [.int 18]) jF_93_4 rfl rfl) ?_
      refine Eq.trans (jr_s (pc2 := 6) (lv2 := [(0, .ref 20), (1, .int 18), (2, .int a2)]) (st2 := [.ref 20, .int 18]) jF_93_5 rfl rfl) ?_
      refine Eq.trans (jr_gf (v := .ref 21) jF_93_6 (by decide +kernel)) ?_
      refine Eq.trans (jr_al (v := 25) jF_93_9 (by decide +kernel)) ?_
      refine Eq.trans (jr_ic0 jF_93_10 (by decide +kernel)) ?_
      refine Eq.trans (jr_s (pc2 := 14) (lv2 := [(0, .ref 20), (1, .int 18), (2, .int a2)]) (st2 := [.int a2]) jF_93_13 rfl rfl) ?_
      refine Eq.trans (jr_if0 jF_93_14 (jk_lt_ge (show (0 : Int32).toInt ≤ (a2 : Int32).toInt by rw [show (0 : Int32).toInt = 0 from by decide]; omega))) ?_
      refine Eq.trans (jr_s (pc2 := 18) (lv2 := [(0, .ref 20), (1, .int 18), (2, .int a2)]) (st2 := [.int a2]) jF_93_17 rfl rfl) ?_
      refine Eq.trans (jr_s (pc2 := 20) (lv2 := [(0, .ref 20), (1, .int 18), (2, .int a2)]) (st2 := [.int 6, .int a2]) jF_93_18 rfl rfl) ?_
      refine Eq.trans (jr_ic1 jF_93_20 (jk_ge_ge (show (6 : Int32).toInt ≤ (a2 : Int32).toInt by rw [show (6 : Int32).toInt = 6 from by decide]; omega))) ?_
      refine Eq.trans (jr_s (pc2 := 33) (lv2 := [(0, .ref 20), (1, .int 18), (2, .int a2)]) (st2 := [.int (-1)]) jF_93_32 rfl rfl) ?_
      exact jr_ri jF_93_33 rfl
    exact jr_ri jF_92_9 rfl
  · refine Eq.trans (jr_s (pc2 := 1) (lv2 := [(0, .ref 117), (1, .int 18), (2, .int a2)]) (st2 := [.ref 117]) jF_266_0 rfl rfl) ?_
    refine Eq.trans (jr_s (pc2 := 2) (lv2 := [(0, .ref 117), (1, .int 18), (2, .int a2)]) (st2 := [.int 18, .ref 117]) jF_266_1 rfl rfl) ?_
    refine Eq.trans (jr_cV (a := 117) (as := [.int 18]) (rest := []) (v := some (.long 0)) (hp2 := jh2) (fr2 := 499) (lo2 := 19979) jF_266_2 (by decide +kernel) rfl (show j_cnd 500 20000 499 19979 2 _ _ = true from rfl) ?_) ?_
    · refine Eq.trans (jr_s (pc2 := 1) (lv2 := [(0, .ref 117), (1, .int 18)]) (st2 := [.int 18]) jF_267_0 rfl rfl) ?_
      refine Eq.trans (jr_s (pc2 := 2) (lv2 := [(0, .ref 117), (1, .int 18)]) (st2 := [.long 18]) jF_267_1 rfl rfl) ?_
      refine Eq.trans (jr_s (pc2 := 3) (lv2 := [(0, .ref 117), (1, .int 18)]) (st2 := [.long 0, .long 18]) jF_267_2 rfl rfl) ?_
      refine Eq.trans (jr_s (pc2 := 6) (lv2 := [(0, .ref 117), (1, .int 18)]) (st2 := [.long 17, .long 0, .long 18]) jF_267_3 rfl rfl) ?_
      refine Eq.trans (jr_cS (as := [.long 18, .long 0, .long 17]) (rest := []) (v := some (.int 0)) (hp2 := jh2) (fr2 := 498) (lo2 := 19954) jF_267_6 rfl (show j_cnd 499 19979 498 19954 6 _ _ = true from rfl) ?_) ?_
      · refine Eq.trans (jr_s (pc2 := 1) (lv2 := [(0, .long 18), (2, .long 0), (4, .long 17)]) (st2 := [.long 18]) jF_232_0 rfl rfl) ?_
        refine Eq.trans (jr_s (pc2 := 2) (lv2 := [(0, .long 18), (2, .long 0), (4, .long 17)]) (st2 := [.long 0, .long 18]) jF_232_1 rfl rfl) ?_
        refine Eq.trans (jr_s (pc2 := 3) (lv2 := [(0, .long 18), (2, .long 0), (4, .long 17)]) (st2 := [.int 1]) jF_232_2 rfl rfl) ?_
        refine Eq.trans (jr_if0 jF_232_3 (by decide +kernel)) ?_
        refine Eq.trans (jr_s (pc2 := 7) (lv2 := [(0, .long 18), (2, .long 0), (4, .long 17)]) (st2 := [.long 18]) jF_232_6 rfl rfl) ?_
        refine Eq.trans (jr_s (pc2 := 9) (lv2 := [(0, .long 18), (2, .long 0), (4, .long 17)]) (st2 := [.long 17, .long 18]) jF_232_7 rfl rfl) ?_
        refine Eq.trans (jr_s (pc2 := 10) (lv2 := [(0, .long 18), (2, .long 0), (4, .long 17)]) (st2 := [.int 1]) jF_232_9 rfl rfl) ?_
        refine Eq.trans (jr_if1 jF_232_10 (by decide +kernel)) ?_
        refine Eq.trans (jr_s (pc2 := 18) (lv2 := [(0, .long 18), (2, .long 0), (4, .long 17)]) (st2 := [.int 0]) jF_232_17 rfl rfl) ?_
        exact jr_ri jF_232_18 rfl
      refine Eq.trans (jr_if1 jF_267_9 (by decide +kernel)) ?_
      refine Eq.trans (jr_s (pc2 := 23) (lv2 := [(0, .ref 117), (1, .int 18)]) (st2 := [.int 18]) jF_267_22 rfl rfl) ?_
      refine Eq.trans (jr_s (pc2 := 25) (lv2 := [(0, .ref 117), (1, .int 18)]) (st2 := [.int 20, .int 18]) jF_267_23 rfl rfl) ?_
      refine Eq.trans (jr_s (pc2 := 26) (lv2 := [(0, .ref 117), (1, .int 18)]) (st2 := [.int (-2)]) jF_267_25 rfl rfl) ?_
      refine Eq.trans (jr_s (pc2 := 27) (lv2 := [(0, .ref 117), (1, .int 18)]) (st2 := [.long (-2)]) jF_267_26 rfl rfl) ?_
      refine Eq.trans (jr_s (pc2 := 28) (lv2 := [(0, .ref 117), (1, .int 18)]) (st2 := [.long 0, .long (-2)]) jF_267_27 rfl rfl) ?_
      refine Eq.trans (jr_s (pc2 := 29) (lv2 := [(0, .ref 117), (1, .int 18)]) (st2 := [.ref 117, .long 0, .long (-2)]) jF_267_28 rfl rfl) ?_
      refine Eq.trans (jr_gf (v := .int 0) jF_267_29 (by decide +kernel)) ?_
      refine Eq.trans (jr_s (pc2 := 33) (lv2 := [(0, .ref 117), (1, .int 18)]) (st2 := [.int 1, .int 0, .long 0, .long (-2)]) jF_267_32 rfl rfl) ?_
      refine Eq.trans (jr_s (pc2 := 34) (lv2 := [(0, .ref 117), (1, .int 18)]) (st2 := [.int (-1), .long 0, .long (-2)]) jF_267_33 rfl rfl) ?_
      refine Eq.trans (jr_s (pc2 := 35) (lv2 := [(0, .ref 117), (1, .int 18)]) (st2 := [.long (-1), .long 0, .long (-2)]) jF_267_34 rfl rfl) ?_
      refine Eq.trans (jr_cS (as := [.long (-2), .long 0, .long (-1)]) (rest := []) (v := some (.int 0)) (hp2 := jh2) (fr2 := 498) (lo2 := 19954) jF_267_35 rfl (show j_cnd 499 19979 498 19954 6 _ _ = true from rfl) ?_) ?_
      · refine Eq.trans (jr_s (pc2 := 1) (lv2 := [(0, .long (-2)), (2, .long 0), (4, .long (-1))]) (st2 := [.long (-2)]) jF_232_0 rfl rfl) ?_
        refine Eq.trans (jr_s (pc2 := 2) (lv2 := [(0, .long (-2)), (2, .long 0), (4, .long (-1))]) (st2 := [.long 0, .long (-2)]) jF_232_1 rfl rfl) ?_
        refine Eq.trans (jr_s (pc2 := 3) (lv2 := [(0, .long (-2)), (2, .long 0), (4, .long (-1))]) (st2 := [.int (-1)]) jF_232_2 rfl rfl) ?_
        refine Eq.trans (jr_if1 jF_232_3 (by decide +kernel)) ?_
        refine Eq.trans (jr_s (pc2 := 18) (lv2 := [(0, .long (-2)), (2, .long 0), (4, .long (-1))]) (st2 := [.int 0]) jF_232_17 rfl rfl) ?_
        exact jr_ri jF_232_18 rfl
      refine Eq.trans (jr_if1 jF_267_38 (by decide +kernel)) ?_
      refine Eq.trans (jr_s (pc2 := 56) (lv2 := [(0, .ref 117), (1, .int 18)]) (st2 := [.long 0]) jF_267_55 rfl rfl) ?_
      exact jr_rl jF_267_56
    refine Eq.trans (jr_s (pc2 := 6) (lv2 := [(3, .long 0), (0, .ref 117), (1, .int 18), (2, .int a2)]) (st2 := []) jF_266_5 rfl rfl) ?_
    refine Eq.trans (jr_s (pc2 := 7) (lv2 := [(3, .long 0), (0, .ref 117), (1, .int 18), (2, .int a2)]) (st2 := [.long 0]) jF_266_6 rfl rfl) ?_
    refine Eq.trans (jr_s (pc2 := 8) (lv2 := [(3, .long 0), (0, .ref 117), (1, .int 18), (2, .int a2)]) (st2 := [.long 0, .long 0]) jF_266_7 rfl rfl) ?_
    refine Eq.trans (jr_s (pc2 := 9) (lv2 := [(3, .long 0), (0, .ref 117), (1, .int 18), (2, .int a2)]) (st2 := [.int 0]) jF_266_8 rfl rfl) ?_
    refine Eq.trans (jr_if1 jF_266_9 (by decide +kernel)) ?_
    refine Eq.trans (jr_s (pc2 := 25) (lv2 := [(3, .long 0), (0, .ref 117), (1, .int 18), (2, .int a2)]) (st2 := [.int (-1)]) jF_266_24 rfl rfl) ?_
    exact jr_ri jF_266_25 rfl
set_option maxHeartbeats 8000000 in
set_option maxRecDepth 100000 in
theorem pm_letter_L90 (a2 : Int32) (hl_a2 : 6 ≤ a2.toInt) (hh_a2 : a2.toInt ≤ 2147483647) : PM 92 266 [.int 19, .int a2] := by
  refine ⟨60000, 60000, (-1), jh2, jh2, ?_, ?_, by decide +kernel⟩
  · refine Eq.trans (jr_s (pc2 := 1) (lv2 := [(0, .ref 9), (1, .int 19), (2, .int a2)]) (st2 := [.ref 9]) jF_92_0 rfl rfl) ?_
    refine Eq.trans (jr_gf (v := .ref 20) jF_92_1 (by decide +kernel)) ?_
    refine Eq.trans (jr_s (pc2 := 5) (lv2 := [(0, .ref 9), (1, .int 19), (2, .int a2)]) (st2 := [.int 19, .ref 20]) jF_92_4 rfl rfl) ?_
    refine Eq.trans (jr_s (pc2 := 6) (lv2 := [(0, .ref 9), (1, .int 19), (2, .int a2)]) (st2 := [.int a2, .int 19, .ref 20]) jF_92_5 rfl rfl) ?_
    refine Eq.trans (jr_cV (a := 20) (as := [.int 19, .int a2]) (rest := []) (v := some (.int (-1))) (hp2 := jh2) (fr2 := 499) (lo2 := 19978) jF_92_6 (by decide +kernel) rfl (show j_cnd 500 20000 499 19978 3 _ _ = true from rfl) ?_) ?_
    · refine Eq.trans (jr_s (pc2 := 1) (lv2 := [(0, .ref 20), (1, .int 19), (2, .int a2)]) (st2 := [.int 19]) jF_93_0 rfl rfl) ?_
      refine Eq.trans (jr_if0 jF_93_1 (by decide +kernel)) ?_
      refine Eq.trans (jr_s (pc2 := 5) (lv2 := [(0, .ref 20), (1, .int 19), (2, .int a2)]) (st2 := [.int 19]) jF_93_4 rfl rfl) ?_
      refine Eq.trans (jr_s (pc2 := 6) (lv2 := [(0, .ref 20), (1, .int 19), (2, .int a2)]) (st2 := [.ref 20, .int 19]) jF_93_5 rfl rfl) ?_
      refine Eq.trans (jr_gf (v := .ref 21) jF_93_6 (by decide +kernel)) ?_
      refine Eq.trans (jr_al (v := 25) jF_93_9 (by decide +kernel)) ?_
      refine Eq.trans (jr_ic0 jF_93_10 (by decide +kernel)) ?_
      refine Eq.trans (jr_s (pc2 := 14) (lv2 := [(0, .ref 20), (1, .int 19), (2, .int a2)]) (st2 := [.int a2]) jF_93_13 rfl rfl) ?_
      refine Eq.trans (jr_if0 jF_93_14 (jk_lt_ge (show (0 : Int32).toInt ≤ (a2 : Int32).toInt by rw [show (0 : Int32).toInt = 0 from by decide]; omega))) ?_
      refine Eq.trans (jr_s (pc2 := 18) (lv2 := [(0, .ref 20), (1, .int 19), (2, .int a2)]) (st2 := [.int a2]) jF_93_17 rfl rfl) ?_
      refine Eq.trans (jr_s (pc2 := 20) (lv2 := [(0, .ref 20), (1, .int 19), (2, .int a2)]) (st2 := [.int 6, .int a2]) jF_93_18 rfl rfl) ?_
      refine Eq.trans (jr_ic1 jF_93_20 (jk_ge_ge (show (6 : Int32).toInt ≤ (a2 : Int32).toInt by rw [show (6 : Int32).toInt = 6 from by decide]; omega))) ?_
      refine Eq.trans (jr_s (pc2 := 33) (lv2 := [(0, .ref 20), (1, .int 19), (2, .int a2)]) (st2 := [.int (-1)]) jF_93_32 rfl rfl) ?_
      exact jr_ri jF_93_33 rfl
    exact jr_ri jF_92_9 rfl
  · refine Eq.trans (jr_s (pc2 := 1) (lv2 := [(0, .ref 117), (1, .int 19), (2, .int a2)]) (st2 := [.ref 117]) jF_266_0 rfl rfl) ?_
    refine Eq.trans (jr_s (pc2 := 2) (lv2 := [(0, .ref 117), (1, .int 19), (2, .int a2)]) (st2 := [.int 19, .ref 117]) jF_266_1 rfl rfl) ?_
    refine Eq.trans (jr_cV (a := 117) (as := [.int 19]) (rest := []) (v := some (.long 0)) (hp2 := jh2) (fr2 := 499) (lo2 := 19979) jF_266_2 (by decide +kernel) rfl (show j_cnd 500 20000 499 19979 2 _ _ = true from rfl) ?_) ?_
    · refine Eq.trans (jr_s (pc2 := 1) (lv2 := [(0, .ref 117), (1, .int 19)]) (st2 := [.int 19]) jF_267_0 rfl rfl) ?_
      refine Eq.trans (jr_s (pc2 := 2) (lv2 := [(0, .ref 117), (1, .int 19)]) (st2 := [.long 19]) jF_267_1 rfl rfl) ?_
      refine Eq.trans (jr_s (pc2 := 3) (lv2 := [(0, .ref 117), (1, .int 19)]) (st2 := [.long 0, .long 19]) jF_267_2 rfl rfl) ?_
      refine Eq.trans (jr_s (pc2 := 6) (lv2 := [(0, .ref 117), (1, .int 19)]) (st2 := [.long 17, .long 0, .long 19]) jF_267_3 rfl rfl) ?_
      refine Eq.trans (jr_cS (as := [.long 19, .long 0, .long 17]) (rest := []) (v := some (.int 0)) (hp2 := jh2) (fr2 := 498) (lo2 := 19954) jF_267_6 rfl (show j_cnd 499 19979 498 19954 6 _ _ = true from rfl) ?_) ?_
      · refine Eq.trans (jr_s (pc2 := 1) (lv2 := [(0, .long 19), (2, .long 0), (4, .long 17)]) (st2 := [.long 19]) jF_232_0 rfl rfl) ?_
        refine Eq.trans (jr_s (pc2 := 2) (lv2 := [(0, .long 19), (2, .long 0), (4, .long 17)]) (st2 := [.long 0, .long 19]) jF_232_1 rfl rfl) ?_
        refine Eq.trans (jr_s (pc2 := 3) (lv2 := [(0, .long 19), (2, .long 0), (4, .long 17)]) (st2 := [.int 1]) jF_232_2 rfl rfl) ?_
        refine Eq.trans (jr_if0 jF_232_3 (by decide +kernel)) ?_
        refine Eq.trans (jr_s (pc2 := 7) (lv2 := [(0, .long 19), (2, .long 0), (4, .long 17)]) (st2 := [.long 19]) jF_232_6 rfl rfl) ?_
        refine Eq.trans (jr_s (pc2 := 9) (lv2 := [(0, .long 19), (2, .long 0), (4, .long 17)]) (st2 := [.long 17, .long 19]) jF_232_7 rfl rfl) ?_
        refine Eq.trans (jr_s (pc2 := 10) (lv2 := [(0, .long 19), (2, .long 0), (4, .long 17)]) (st2 := [.int 1]) jF_232_9 rfl rfl) ?_
        refine Eq.trans (jr_if1 jF_232_10 (by decide +kernel)) ?_
        refine Eq.trans (jr_s (pc2 := 18) (lv2 := [(0, .long 19), (2, .long 0), (4, .long 17)]) (st2 := [.int 0]) jF_232_17 rfl rfl) ?_
        exact jr_ri jF_232_18 rfl
      refine Eq.trans (jr_if1 jF_267_9 (by decide +kernel)) ?_
      refine Eq.trans (jr_s (pc2 := 23) (lv2 := [(0, .ref 117), (1, .int 19)]) (st2 := [.int 19]) jF_267_22 rfl rfl) ?_
      refine Eq.trans (jr_s (pc2 := 25) (lv2 := [(0, .ref 117), (1, .int 19)]) (st2 := [.int 20, .int 19]) jF_267_23 rfl rfl) ?_
      refine Eq.trans (jr_s (pc2 := 26) (lv2 := [(0, .ref 117), (1, .int 19)]) (st2 := [.int (-1)]) jF_267_25 rfl rfl) ?_
      refine Eq.trans (jr_s (pc2 := 27) (lv2 := [(0, .ref 117), (1, .int 19)]) (st2 := [.long (-1)]) jF_267_26 rfl rfl) ?_
      refine Eq.trans (jr_s (pc2 := 28) (lv2 := [(0, .ref 117), (1, .int 19)]) (st2 := [.long 0, .long (-1)]) jF_267_27 rfl rfl) ?_
      refine Eq.trans (jr_s (pc2 := 29) (lv2 := [(0, .ref 117), (1, .int 19)]) (st2 := [.ref 117, .long 0, .long (-1)]) jF_267_28 rfl rfl) ?_
      refine Eq.trans (jr_gf (v := .int 0) jF_267_29 (by decide +kernel)) ?_
      refine Eq.trans (jr_s (pc2 := 33) (lv2 := [(0, .ref 117), (1, .int 19)]) (st2 := [.int 1, .int 0, .long 0, .long (-1)]) jF_267_32 rfl rfl) ?_
      refine Eq.trans (jr_s (pc2 := 34) (lv2 := [(0, .ref 117), (1, .int 19)]) (st2 := [.int (-1), .long 0, .long (-1)]) jF_267_33 rfl rfl) ?_
      refine Eq.trans (jr_s (pc2 := 35) (lv2 := [(0, .ref 117), (1, .int 19)]) (st2 := [.long (-1), .long 0, .long (-1)]) jF_267_34 rfl rfl) ?_
      refine Eq.trans (jr_cS (as := [.long (-1), .long 0, .long (-1)]) (rest := []) (v := some (.int 0)) (hp2 := jh2) (fr2 := 498) (lo2 := 19954) jF_267_35 rfl (show j_cnd 499 19979 498 19954 6 _ _ = true from rfl) ?_) ?_
      · refine Eq.trans (jr_s (pc2 := 1) (lv2 := [(0, .long (-1)), (2, .long 0), (4, .long (-1))]) (st2 := [.long (-1)]) jF_232_0 rfl rfl) ?_
        refine Eq.trans (jr_s (pc2 := 2) (lv2 := [(0, .long (-1)), (2, .long 0), (4, .long (-1))]) (st2 := [.long 0, .long (-1)]) jF_232_1 rfl rfl) ?_
        refine Eq.trans (jr_s (pc2 := 3) (lv2 := [(0, .long (-1)), (2, .long 0), (4, .long (-1))]) (st2 := [.int (-1)]) jF_232_2 rfl rfl) ?_
        refine Eq.trans (jr_if1 jF_232_3 (by decide +kernel)) ?_
        refine Eq.trans (jr_s (pc2 := 18) (lv2 := [(0, .long (-1)), (2, .long 0), (4, .long (-1))]) (st2 := [.int 0]) jF_232_17 rfl rfl) ?_
        exact jr_ri jF_232_18 rfl
      refine Eq.trans (jr_if1 jF_267_38 (by decide +kernel)) ?_
      refine Eq.trans (jr_s (pc2 := 56) (lv2 := [(0, .ref 117), (1, .int 19)]) (st2 := [.long 0]) jF_267_55 rfl rfl) ?_
      exact jr_rl jF_267_56
    refine Eq.trans (jr_s (pc2 := 6) (lv2 := [(3, .long 0), (0, .ref 117), (1, .int 19), (2, .int a2)]) (st2 := []) jF_266_5 rfl rfl) ?_
    refine Eq.trans (jr_s (pc2 := 7) (lv2 := [(3, .long 0), (0, .ref 117), (1, .int 19), (2, .int a2)]) (st2 := [.long 0]) jF_266_6 rfl rfl) ?_
    refine Eq.trans (jr_s (pc2 := 8) (lv2 := [(3, .long 0), (0, .ref 117), (1, .int 19), (2, .int a2)]) (st2 := [.long 0, .long 0]) jF_266_7 rfl rfl) ?_
    refine Eq.trans (jr_s (pc2 := 9) (lv2 := [(3, .long 0), (0, .ref 117), (1, .int 19), (2, .int a2)]) (st2 := [.int 0]) jF_266_8 rfl rfl) ?_
    refine Eq.trans (jr_if1 jF_266_9 (by decide +kernel)) ?_
    refine Eq.trans (jr_s (pc2 := 25) (lv2 := [(3, .long 0), (0, .ref 117), (1, .int 19), (2, .int a2)]) (st2 := [.int (-1)]) jF_266_24 rfl rfl) ?_
    exact jr_ri jF_266_25 rfl
set_option maxHeartbeats 8000000 in
set_option maxRecDepth 100000 in
theorem pm_letter_L91 (a2 : Int32) (hl_a2 : 6 ≤ a2.toInt) (hh_a2 : a2.toInt ≤ 2147483647) : PM 92 266 [.int 20, .int a2] := by
  refine ⟨60000, 60000, (-1), jh2, jh2, ?_, ?_, by decide +kernel⟩
  · refine Eq.trans (jr_s (pc2 := 1) (lv2 := [(0, .ref 9), (1, .int 20), (2, .int a2)]) (st2 := [.ref 9]) jF_92_0 rfl rfl) ?_
    refine Eq.trans (jr_gf (v := .ref 20) jF_92_1 (by decide +kernel)) ?_
    refine Eq.trans (jr_s (pc2 := 5) (lv2 := [(0, .ref 9), (1, .int 20), (2, .int a2)]) (st2 := [.int 20, .ref 20]) jF_92_4 rfl rfl) ?_
    refine Eq.trans (jr_s (pc2 := 6) (lv2 := [(0, .ref 9), (1, .int 20), (2, .int a2)]) (st2 := [.int a2, .int 20, .ref 20]) jF_92_5 rfl rfl) ?_
    refine Eq.trans (jr_cV (a := 20) (as := [.int 20, .int a2]) (rest := []) (v := some (.int (-1))) (hp2 := jh2) (fr2 := 499) (lo2 := 19978) jF_92_6 (by decide +kernel) rfl (show j_cnd 500 20000 499 19978 3 _ _ = true from rfl) ?_) ?_
    · refine Eq.trans (jr_s (pc2 := 1) (lv2 := [(0, .ref 20), (1, .int 20), (2, .int a2)]) (st2 := [.int 20]) jF_93_0 rfl rfl) ?_
      refine Eq.trans (jr_if0 jF_93_1 (by decide +kernel)) ?_
      refine Eq.trans (jr_s (pc2 := 5) (lv2 := [(0, .ref 20), (1, .int 20), (2, .int a2)]) (st2 := [.int 20]) jF_93_4 rfl rfl) ?_
      refine Eq.trans (jr_s (pc2 := 6) (lv2 := [(0, .ref 20), (1, .int 20), (2, .int a2)]) (st2 := [.ref 20, .int 20]) jF_93_5 rfl rfl) ?_
      refine Eq.trans (jr_gf (v := .ref 21) jF_93_6 (by decide +kernel)) ?_
      refine Eq.trans (jr_al (v := 25) jF_93_9 (by decide +kernel)) ?_
      refine Eq.trans (jr_ic0 jF_93_10 (by decide +kernel)) ?_
      refine Eq.trans (jr_s (pc2 := 14) (lv2 := [(0, .ref 20), (1, .int 20), (2, .int a2)]) (st2 := [.int a2]) jF_93_13 rfl rfl) ?_
      refine Eq.trans (jr_if0 jF_93_14 (jk_lt_ge (show (0 : Int32).toInt ≤ (a2 : Int32).toInt by rw [show (0 : Int32).toInt = 0 from by decide]; omega))) ?_
      refine Eq.trans (jr_s (pc2 := 18) (lv2 := [(0, .ref 20), (1, .int 20), (2, .int a2)]) (st2 := [.int a2]) jF_93_17 rfl rfl) ?_
      refine Eq.trans (jr_s (pc2 := 20) (lv2 := [(0, .ref 20), (1, .int 20), (2, .int a2)]) (st2 := [.int 6, .int a2]) jF_93_18 rfl rfl) ?_
      refine Eq.trans (jr_ic1 jF_93_20 (jk_ge_ge (show (6 : Int32).toInt ≤ (a2 : Int32).toInt by rw [show (6 : Int32).toInt = 6 from by decide]; omega))) ?_
      refine Eq.trans (jr_s (pc2 := 33) (lv2 := [(0, .ref 20), (1, .int 20), (2, .int a2)]) (st2 := [.int (-1)]) jF_93_32 rfl rfl) ?_
      exact jr_ri jF_93_33 rfl
    exact jr_ri jF_92_9 rfl
  · refine Eq.trans (jr_s (pc2 := 1) (lv2 := [(0, .ref 117), (1, .int 20), (2, .int a2)]) (st2 := [.ref 117]) jF_266_0 rfl rfl) ?_
    refine Eq.trans (jr_s (pc2 := 2) (lv2 := [(0, .ref 117), (1, .int 20), (2, .int a2)]) (st2 := [.int 20, .ref 117]) jF_266_1 rfl rfl) ?_
    refine Eq.trans (jr_cV (a := 117) (as := [.int 20]) (rest := []) (v := some (.long 0)) (hp2 := jh2) (fr2 := 499) (lo2 := 19979) jF_266_2 (by decide +kernel) rfl (show j_cnd 500 20000 499 19979 2 _ _ = true from rfl) ?_) ?_
    · refine Eq.trans (jr_s (pc2 := 1) (lv2 := [(0, .ref 117), (1, .int 20)]) (st2 := [.int 20]) jF_267_0 rfl rfl) ?_
      refine Eq.trans (jr_s (pc2 := 2) (lv2 := [(0, .ref 117), (1, .int 20)]) (st2 := [.long 20]) jF_267_1 rfl rfl) ?_
      refine Eq.trans (jr_s (pc2 := 3) (lv2 := [(0, .ref 117), (1, .int 20)]) (st2 := [.long 0, .long 20]) jF_267_2 rfl rfl) ?_
      refine Eq.trans (jr_s (pc2 := 6) (lv2 := [(0, .ref 117), (1, .int 20)]) (st2 := [.long 17, .long 0, .long 20]) jF_267_3 rfl rfl) ?_
      refine Eq.trans (jr_cS (as := [.long 20, .long 0, .long 17]) (rest := []) (v := some (.int 0)) (hp2 := jh2) (fr2 := 498) (lo2 := 19954) jF_267_6 rfl (show j_cnd 499 19979 498 19954 6 _ _ = true from rfl) ?_) ?_
      · refine Eq.trans (jr_s (pc2 := 1) (lv2 := [(0, .long 20), (2, .long 0), (4, .long 17)]) (st2 := [.long 20]) jF_232_0 rfl rfl) ?_
        refine Eq.trans (jr_s (pc2 := 2) (lv2 := [(0, .long 20), (2, .long 0), (4, .long 17)]) (st2 := [.long 0, .long 20]) jF_232_1 rfl rfl) ?_
        refine Eq.trans (jr_s (pc2 := 3) (lv2 := [(0, .long 20), (2, .long 0), (4, .long 17)]) (st2 := [.int 1]) jF_232_2 rfl rfl) ?_
        refine Eq.trans (jr_if0 jF_232_3 (by decide +kernel)) ?_
        refine Eq.trans (jr_s (pc2 := 7) (lv2 := [(0, .long 20), (2, .long 0), (4, .long 17)]) (st2 := [.long 20]) jF_232_6 rfl rfl) ?_
        refine Eq.trans (jr_s (pc2 := 9) (lv2 := [(0, .long 20), (2, .long 0), (4, .long 17)]) (st2 := [.long 17, .long 20]) jF_232_7 rfl rfl) ?_
        refine Eq.trans (jr_s (pc2 := 10) (lv2 := [(0, .long 20), (2, .long 0), (4, .long 17)]) (st2 := [.int 1]) jF_232_9 rfl rfl) ?_
        refine Eq.trans (jr_if1 jF_232_10 (by decide +kernel)) ?_
        refine Eq.trans (jr_s (pc2 := 18) (lv2 := [(0, .long 20), (2, .long 0), (4, .long 17)]) (st2 := [.int 0]) jF_232_17 rfl rfl) ?_
        exact jr_ri jF_232_18 rfl
      refine Eq.trans (jr_if1 jF_267_9 (by decide +kernel)) ?_
      refine Eq.trans (jr_s (pc2 := 23) (lv2 := [(0, .ref 117), (1, .int 20)]) (st2 := [.int 20]) jF_267_22 rfl rfl) ?_
      refine Eq.trans (jr_s (pc2 := 25) (lv2 := [(0, .ref 117), (1, .int 20)]) (st2 := [.int 20, .int 20]) jF_267_23 rfl rfl) ?_
      refine Eq.trans (jr_s (pc2 := 26) (lv2 := [(0, .ref 117), (1, .int 20)]) (st2 := [.int 0]) jF_267_25 rfl rfl) ?_
      refine Eq.trans (jr_s (pc2 := 27) (lv2 := [(0, .ref 117), (1, .int 20)]) (st2 := [.long 0]) jF_267_26 rfl rfl) ?_
      refine Eq.trans (jr_s (pc2 := 28) (lv2 := [(0, .ref 117), (1, .int 20)]) (st2 := [.long 0, .long 0]) jF_267_27 rfl rfl) ?_
      refine Eq.trans (jr_s (pc2 := 29) (lv2 := [(0, .ref 117), (1, .int 20)]) (st2 := [.ref 117, .long 0, .long 0]) jF_267_28 rfl rfl) ?_
      refine Eq.trans (jr_gf (v := .int 0) jF_267_29 (by decide +kernel)) ?_
      refine Eq.trans (jr_s (pc2 := 33) (lv2 := [(0, .ref 117), (1, .int 20)]) (st2 := [.int 1, .int 0, .long 0, .long 0]) jF_267_32 rfl rfl) ?_
      refine Eq.trans (jr_s (pc2 := 34) (lv2 := [(0, .ref 117), (1, .int 20)]) (st2 := [.int (-1), .long 0, .long 0]) jF_267_33 rfl rfl) ?_
      refine Eq.trans (jr_s (pc2 := 35) (lv2 := [(0, .ref 117), (1, .int 20)]) (st2 := [.long (-1), .long 0, .long 0]) jF_267_34 rfl rfl) ?_
      refine Eq.trans (jr_cS (as := [.long 0, .long 0, .long (-1)]) (rest := []) (v := some (.int 0)) (hp2 := jh2) (fr2 := 498) (lo2 := 19954) jF_267_35 rfl (show j_cnd 499 19979 498 19954 6 _ _ = true from rfl) ?_) ?_
      · refine Eq.trans (jr_s (pc2 := 1) (lv2 := [(0, .long 0), (2, .long 0), (4, .long (-1))]) (st2 := [.long 0]) jF_232_0 rfl rfl) ?_
        refine Eq.trans (jr_s (pc2 := 2) (lv2 := [(0, .long 0), (2, .long 0), (4, .long (-1))]) (st2 := [.long 0, .long 0]) jF_232_1 rfl rfl) ?_
        refine Eq.trans (jr_s (pc2 := 3) (lv2 := [(0, .long 0), (2, .long 0), (4, .long (-1))]) (st2 := [.int 0]) jF_232_2 rfl rfl) ?_
        refine Eq.trans (jr_if0 jF_232_3 (by decide +kernel)) ?_
        refine Eq.trans (jr_s (pc2 := 7) (lv2 := [(0, .long 0), (2, .long 0), (4, .long (-1))]) (st2 := [.long 0]) jF_232_6 rfl rfl) ?_
        refine Eq.trans (jr_s (pc2 := 9) (lv2 := [(0, .long 0), (2, .long 0), (4, .long (-1))]) (st2 := [.long (-1), .long 0]) jF_232_7 rfl rfl) ?_
        refine Eq.trans (jr_s (pc2 := 10) (lv2 := [(0, .long 0), (2, .long 0), (4, .long (-1))]) (st2 := [.int 1]) jF_232_9 rfl rfl) ?_
        refine Eq.trans (jr_if1 jF_232_10 (by decide +kernel)) ?_
        refine Eq.trans (jr_s (pc2 := 18) (lv2 := [(0, .long 0), (2, .long 0), (4, .long (-1))]) (st2 := [.int 0]) jF_232_17 rfl rfl) ?_
        exact jr_ri jF_232_18 rfl
      refine Eq.trans (jr_if1 jF_267_38 (by decide +kernel)) ?_
      refine Eq.trans (jr_s (pc2 := 56) (lv2 := [(0, .ref 117), (1, .int 20)]) (st2 := [.long 0]) jF_267_55 rfl rfl) ?_
      exact jr_rl jF_267_56
    refine Eq.trans (jr_s (pc2 := 6) (lv2 := [(3, .long 0), (0, .ref 117), (1, .int 20), (2, .int a2)]) (st2 := []) jF_266_5 rfl rfl) ?_
    refine Eq.trans (jr_s (pc2 := 7) (lv2 := [(3, .long 0), (0, .ref 117), (1, .int 20), (2, .int a2)]) (st2 := [.long 0]) jF_266_6 rfl rfl) ?_
    refine Eq.trans (jr_s (pc2 := 8) (lv2 := [(3, .long 0), (0, .ref 117), (1, .int 20), (2, .int a2)]) (st2 := [.long 0, .long 0]) jF_266_7 rfl rfl) ?_
    refine Eq.trans (jr_s (pc2 := 9) (lv2 := [(3, .long 0), (0, .ref 117), (1, .int 20), (2, .int a2)]) (st2 := [.int 0]) jF_266_8 rfl rfl) ?_
    refine Eq.trans (jr_if1 jF_266_9 (by decide +kernel)) ?_
    refine Eq.trans (jr_s (pc2 := 25) (lv2 := [(3, .long 0), (0, .ref 117), (1, .int 20), (2, .int a2)]) (st2 := [.int (-1)]) jF_266_24 rfl rfl) ?_
    exact jr_ri jF_266_25 rfl
set_option maxHeartbeats 8000000 in
set_option maxRecDepth 100000 in
theorem pm_letter_L92 (a2 : Int32) (hl_a2 : 6 ≤ a2.toInt) (hh_a2 : a2.toInt ≤ 2147483647) : PM 92 266 [.int 21, .int a2] := by
  refine ⟨60000, 60000, (-1), jh2, jh2, ?_, ?_, by decide +kernel⟩
  · refine Eq.trans (jr_s (pc2 := 1) (lv2 := [(0, .ref 9), (1, .int 21), (2, .int a2)]) (st2 := [.ref 9]) jF_92_0 rfl rfl) ?_
    refine Eq.trans (jr_gf (v := .ref 20) jF_92_1 (by decide +kernel)) ?_
    refine Eq.trans (jr_s (pc2 := 5) (lv2 := [(0, .ref 9), (1, .int 21), (2, .int a2)]) (st2 := [.int 21, .ref 20]) jF_92_4 rfl rfl) ?_
    refine Eq.trans (jr_s (pc2 := 6) (lv2 := [(0, .ref 9), (1, .int 21), (2, .int a2)]) (st2 := [.int a2, .int 21, .ref 20]) jF_92_5 rfl rfl) ?_
    refine Eq.trans (jr_cV (a := 20) (as := [.int 21, .int a2]) (rest := []) (v := some (.int (-1))) (hp2 := jh2) (fr2 := 499) (lo2 := 19978) jF_92_6 (by decide +kernel) rfl (show j_cnd 500 20000 499 19978 3 _ _ = true from rfl) ?_) ?_
    · refine Eq.trans (jr_s (pc2 := 1) (lv2 := [(0, .ref 20), (1, .int 21), (2, .int a2)]) (st2 := [.int 21]) jF_93_0 rfl rfl) ?_
      refine Eq.trans (jr_if0 jF_93_1 (by decide +kernel)) ?_
      refine Eq.trans (jr_s (pc2 := 5) (lv2 := [(0, .ref 20), (1, .int 21), (2, .int a2)]) (st2 := [.int 21]) jF_93_4 rfl rfl) ?_
      refine Eq.trans (jr_s (pc2 := 6) (lv2 := [(0, .ref 20), (1, .int 21), (2, .int a2)]) (st2 := [.ref 20, .int 21]) jF_93_5 rfl rfl) ?_
      refine Eq.trans (jr_gf (v := .ref 21) jF_93_6 (by decide +kernel)) ?_
      refine Eq.trans (jr_al (v := 25) jF_93_9 (by decide +kernel)) ?_
      refine Eq.trans (jr_ic0 jF_93_10 (by decide +kernel)) ?_
      refine Eq.trans (jr_s (pc2 := 14) (lv2 := [(0, .ref 20), (1, .int 21), (2, .int a2)]) (st2 := [.int a2]) jF_93_13 rfl rfl) ?_
      refine Eq.trans (jr_if0 jF_93_14 (jk_lt_ge (show (0 : Int32).toInt ≤ (a2 : Int32).toInt by rw [show (0 : Int32).toInt = 0 from by decide]; omega))) ?_
      refine Eq.trans (jr_s (pc2 := 18) (lv2 := [(0, .ref 20), (1, .int 21), (2, .int a2)]) (st2 := [.int a2]) jF_93_17 rfl rfl) ?_
      refine Eq.trans (jr_s (pc2 := 20) (lv2 := [(0, .ref 20), (1, .int 21), (2, .int a2)]) (st2 := [.int 6, .int a2]) jF_93_18 rfl rfl) ?_
      refine Eq.trans (jr_ic1 jF_93_20 (jk_ge_ge (show (6 : Int32).toInt ≤ (a2 : Int32).toInt by rw [show (6 : Int32).toInt = 6 from by decide]; omega))) ?_
      refine Eq.trans (jr_s (pc2 := 33) (lv2 := [(0, .ref 20), (1, .int 21), (2, .int a2)]) (st2 := [.int (-1)]) jF_93_32 rfl rfl) ?_
      exact jr_ri jF_93_33 rfl
    exact jr_ri jF_92_9 rfl
  · refine Eq.trans (jr_s (pc2 := 1) (lv2 := [(0, .ref 117), (1, .int 21), (2, .int a2)]) (st2 := [.ref 117]) jF_266_0 rfl rfl) ?_
    refine Eq.trans (jr_s (pc2 := 2) (lv2 := [(0, .ref 117), (1, .int 21), (2, .int a2)]) (st2 := [.int 21, .ref 117]) jF_266_1 rfl rfl) ?_
    refine Eq.trans (jr_cV (a := 117) (as := [.int 21]) (rest := []) (v := some (.long 0)) (hp2 := jh2) (fr2 := 499) (lo2 := 19979) jF_266_2 (by decide +kernel) rfl (show j_cnd 500 20000 499 19979 2 _ _ = true from rfl) ?_) ?_
    · refine Eq.trans (jr_s (pc2 := 1) (lv2 := [(0, .ref 117), (1, .int 21)]) (st2 := [.int 21]) jF_267_0 rfl rfl) ?_
      refine Eq.trans (jr_s (pc2 := 2) (lv2 := [(0, .ref 117), (1, .int 21)]) (st2 := [.long 21]) jF_267_1 rfl rfl) ?_
      refine Eq.trans (jr_s (pc2 := 3) (lv2 := [(0, .ref 117), (1, .int 21)]) (st2 := [.long 0, .long 21]) jF_267_2 rfl rfl) ?_
      refine Eq.trans (jr_s (pc2 := 6) (lv2 := [(0, .ref 117), (1, .int 21)]) (st2 := [.long 17, .long 0, .long 21]) jF_267_3 rfl rfl) ?_
      refine Eq.trans (jr_cS (as := [.long 21, .long 0, .long 17]) (rest := []) (v := some (.int 0)) (hp2 := jh2) (fr2 := 498) (lo2 := 19954) jF_267_6 rfl (show j_cnd 499 19979 498 19954 6 _ _ = true from rfl) ?_) ?_
      · refine Eq.trans (jr_s (pc2 := 1) (lv2 := [(0, .long 21), (2, .long 0), (4, .long 17)]) (st2 := [.long 21]) jF_232_0 rfl rfl) ?_
        refine Eq.trans (jr_s (pc2 := 2) (lv2 := [(0, .long 21), (2, .long 0), (4, .long 17)]) (st2 := [.long 0, .long 21]) jF_232_1 rfl rfl) ?_
        refine Eq.trans (jr_s (pc2 := 3) (lv2 := [(0, .long 21), (2, .long 0), (4, .long 17)]) (st2 := [.int 1]) jF_232_2 rfl rfl) ?_
        refine Eq.trans (jr_if0 jF_232_3 (by decide +kernel)) ?_
        refine Eq.trans (jr_s (pc2 := 7) (lv2 := [(0, .long 21), (2, .long 0), (4, .long 17)]) (st2 := [.long 21]) jF_232_6 rfl rfl) ?_
        refine Eq.trans (jr_s (pc2 := 9) (lv2 := [(0, .long 21), (2, .long 0), (4, .long 17)]) (st2 := [.long 17, .long 21]) jF_232_7 rfl rfl) ?_
        refine Eq.trans (jr_s (pc2 := 10) (lv2 := [(0, .long 21), (2, .long 0), (4, .long 17)]) (st2 := [.int 1]) jF_232_9 rfl rfl) ?_
        refine Eq.trans (jr_if1 jF_232_10 (by decide +kernel)) ?_
        refine Eq.trans (jr_s (pc2 := 18) (lv2 := [(0, .long 21), (2, .long 0), (4, .long 17)]) (st2 := [.int 0]) jF_232_17 rfl rfl) ?_
        exact jr_ri jF_232_18 rfl
      refine Eq.trans (jr_if1 jF_267_9 (by decide +kernel)) ?_
      refine Eq.trans (jr_s (pc2 := 23) (lv2 := [(0, .ref 117), (1, .int 21)]) (st2 := [.int 21]) jF_267_22 rfl rfl) ?_
      refine Eq.trans (jr_s (pc2 := 25) (lv2 := [(0, .ref 117), (1, .int 21)]) (st2 := [.int 20, .int 21]) jF_267_23 rfl rfl) ?_
      refine Eq.trans (jr_s (pc2 := 26) (lv2 := [(0, .ref 117), (1, .int 21)]) (st2 := [.int 1]) jF_267_25 rfl rfl) ?_
      refine Eq.trans (jr_s (pc2 := 27) (lv2 := [(0, .ref 117), (1, .int 21)]) (st2 := [.long 1]) jF_267_26 rfl rfl) ?_
      refine Eq.trans (jr_s (pc2 := 28) (lv2 := [(0, .ref 117), (1, .int 21)]) (st2 := [.long 0, .long 1]) jF_267_27 rfl rfl) ?_
      refine Eq.trans (jr_s (pc2 := 29) (lv2 := [(0, .ref 117), (1, .int 21)]) (st2 := [.ref 117, .long 0, .long 1]) jF_267_28 rfl rfl) ?_
      refine Eq.trans (jr_gf (v := .int 0) jF_267_29 (by decide +kernel)) ?_
      refine Eq.trans (jr_s (pc2 := 33) (lv2 := [(0, .ref 117), (1, .int 21)]) (st2 := [.int 1, .int 0, .long 0, .long 1]) jF_267_32 rfl rfl) ?_
      refine Eq.trans (jr_s (pc2 := 34) (lv2 := [(0, .ref 117), (1, .int 21)]) (st2 := [.int (-1), .long 0, .long 1]) jF_267_33 rfl rfl) ?_
      refine Eq.trans (jr_s (pc2 := 35) (lv2 := [(0, .ref 117), (1, .int 21)]) (st2 := [.long (-1), .long 0, .long 1]) jF_267_34 rfl rfl) ?_
      refine Eq.trans (jr_cS (as := [.long 1, .long 0, .long (-1)]) (rest := []) (v := some (.int 0)) (hp2 := jh2) (fr2 := 498) (lo2 := 19954) jF_267_35 rfl (show j_cnd 499 19979 498 19954 6 _ _ = true from rfl) ?_) ?_
      · refine Eq.trans (jr_s (pc2 := 1) (lv2 := [(0, .long 1), (2, .long 0), (4, .long (-1))]) (st2 := [.long 1]) jF_232_0 rfl rfl) ?_
        refine Eq.trans (jr_s (pc2 := 2) (lv2 := [(0, .long 1), (2, .long 0), (4, .long (-1))]) (st2 := [.long 0, .long 1]) jF_232_1 rfl rfl) ?_
        refine Eq.trans (jr_s (pc2 := 3) (lv2 := [(0, .long 1), (2, .long 0), (4, .long (-1))]) (st2 := [.int 1]) jF_232_2 rfl rfl) ?_
        refine Eq.trans (jr_if0 jF_232_3 (by decide +kernel)) ?_
        refine Eq.trans (jr_s (pc2 := 7) (lv2 := [(0, .long 1), (2, .long 0), (4, .long (-1))]) (st2 := [.long 1]) jF_232_6 rfl rfl) ?_
        refine Eq.trans (jr_s (pc2 := 9) (lv2 := [(0, .long 1), (2, .long 0), (4, .long (-1))]) (st2 := [.long (-1), .long 1]) jF_232_7 rfl rfl) ?_
        refine Eq.trans (jr_s (pc2 := 10) (lv2 := [(0, .long 1), (2, .long 0), (4, .long (-1))]) (st2 := [.int 1]) jF_232_9 rfl rfl) ?_
        refine Eq.trans (jr_if1 jF_232_10 (by decide +kernel)) ?_
        refine Eq.trans (jr_s (pc2 := 18) (lv2 := [(0, .long 1), (2, .long 0), (4, .long (-1))]) (st2 := [.int 0]) jF_232_17 rfl rfl) ?_
        exact jr_ri jF_232_18 rfl
      refine Eq.trans (jr_if1 jF_267_38 (by decide +kernel)) ?_
      refine Eq.trans (jr_s (pc2 := 56) (lv2 := [(0, .ref 117), (1, .int 21)]) (st2 := [.long 0]) jF_267_55 rfl rfl) ?_
      exact jr_rl jF_267_56
    refine Eq.trans (jr_s (pc2 := 6) (lv2 := [(3, .long 0), (0, .ref 117), (1, .int 21), (2, .int a2)]) (st2 := []) jF_266_5 rfl rfl) ?_
    refine Eq.trans (jr_s (pc2 := 7) (lv2 := [(3, .long 0), (0, .ref 117), (1, .int 21), (2, .int a2)]) (st2 := [.long 0]) jF_266_6 rfl rfl) ?_
    refine Eq.trans (jr_s (pc2 := 8) (lv2 := [(3, .long 0), (0, .ref 117), (1, .int 21), (2, .int a2)]) (st2 := [.long 0, .long 0]) jF_266_7 rfl rfl) ?_
    refine Eq.trans (jr_s (pc2 := 9) (lv2 := [(3, .long 0), (0, .ref 117), (1, .int 21), (2, .int a2)]) (st2 := [.int 0]) jF_266_8 rfl rfl) ?_
    refine Eq.trans (jr_if1 jF_266_9 (by decide +kernel)) ?_
    refine Eq.trans (jr_s (pc2 := 25) (lv2 := [(3, .long 0), (0, .ref 117), (1, .int 21), (2, .int a2)]) (st2 := [.int (-1)]) jF_266_24 rfl rfl) ?_
    exact jr_ri jF_266_25 rfl
set_option maxHeartbeats 8000000 in
set_option maxRecDepth 100000 in
theorem pm_letter_L93 (a2 : Int32) (hl_a2 : 6 ≤ a2.toInt) (hh_a2 : a2.toInt ≤ 2147483647) : PM 92 266 [.int 22, .int a2] := by
  refine ⟨60000, 60000, (-1), jh2, jh2, ?_, ?_, by decide +kernel⟩
  · refine Eq.trans (jr_s (pc2 := 1) (lv2 := [(0, .ref 9), (1, .int 22), (2, .int a2)]) (st2 := [.ref 9]) jF_92_0 rfl rfl) ?_
    refine Eq.trans (jr_gf (v := .ref 20) jF_92_1 (by decide +kernel)) ?_
    refine Eq.trans (jr_s (pc2 := 5) (lv2 := [(0, .ref 9), (1, .int 22), (2, .int a2)]) (st2 := [.int 22, .ref 20]) jF_92_4 rfl rfl) ?_
    refine Eq.trans (jr_s (pc2 := 6) (lv2 := [(0, .ref 9), (1, .int 22), (2, .int a2)]) (st2 := [.int a2, .int 22, .ref 20]) jF_92_5 rfl rfl) ?_
    refine Eq.trans (jr_cV (a := 20) (as := [.int 22, .int a2]) (rest := []) (v := some (.int (-1))) (hp2 := jh2) (fr2 := 499) (lo2 := 19978) jF_92_6 (by decide +kernel) rfl (show j_cnd 500 20000 499 19978 3 _ _ = true from rfl) ?_) ?_
    · refine Eq.trans (jr_s (pc2 := 1) (lv2 := [(0, .ref 20), (1, .int 22), (2, .int a2)]) (st2 := [.int 22]) jF_93_0 rfl rfl) ?_
      refine Eq.trans (jr_if0 jF_93_1 (by decide +kernel)) ?_
      refine Eq.trans (jr_s (pc2 := 5) (lv2 := [(0, .ref 20), (1, .int 22), (2, .int a2)]) (st2 := [.int 22]) jF_93_4 rfl rfl) ?_
      refine Eq.trans (jr_s (pc2 := 6) (lv2 := [(0, .ref 20), (1, .int 22), (2, .int a2)]) (st2 := [.ref 20, .int 22]) jF_93_5 rfl rfl) ?_
      refine Eq.trans (jr_gf (v := .ref 21) jF_93_6 (by decide +kernel)) ?_
      refine Eq.trans (jr_al (v := 25) jF_93_9 (by decide +kernel)) ?_
      refine Eq.trans (jr_ic0 jF_93_10 (by decide +kernel)) ?_
      refine Eq.trans (jr_s (pc2 := 14) (lv2 := [(0, .ref 20), (1, .int 22), (2, .int a2)]) (st2 := [.int a2]) jF_93_13 rfl rfl) ?_
      refine Eq.trans (jr_if0 jF_93_14 (jk_lt_ge (show (0 : Int32).toInt ≤ (a2 : Int32).toInt by rw [show (0 : Int32).toInt = 0 from by decide]; omega))) ?_
      refine Eq.trans (jr_s (pc2 := 18) (lv2 := [(0, .ref 20), (1, .int 22), (2, .int a2)]) (st2 := [.int a2]) jF_93_17 rfl rfl) ?_
      refine Eq.trans (jr_s (pc2 := 20) (lv2 := [(0, .ref 20), (1, .int 22), (2, .int a2)]) (st2 := [.int 6, .int a2]) jF_93_18 rfl rfl) ?_
      refine Eq.trans (jr_ic1 jF_93_20 (jk_ge_ge (show (6 : Int32).toInt ≤ (a2 : Int32).toInt by rw [show (6 : Int32).toInt = 6 from by decide]; omega))) ?_
      refine Eq.trans (jr_s (pc2 := 33) (lv2 := [(0, .ref 20), (1, .int 22), (2, .int a2)]) (st2 := [.int (-1)]) jF_93_32 rfl rfl) ?_
      exact jr_ri jF_93_33 rfl
    exact jr_ri jF_92_9 rfl
  · refine Eq.trans (jr_s (pc2 := 1) (lv2 := [(0, .ref 117), (1, .int 22), (2, .int a2)]) (st2 := [.ref 117]) jF_266_0 rfl rfl) ?_
    refine Eq.trans (jr_s (pc2 := 2) (lv2 := [(0, .ref 117), (1, .int 22), (2, .int a2)]) (st2 := [.int 22, .ref 117]) jF_266_1 rfl rfl) ?_
    refine Eq.trans (jr_cV (a := 117) (as := [.int 22]) (rest := []) (v := some (.long 0)) (hp2 := jh2) (fr2 := 499) (lo2 := 19979) jF_266_2 (by decide +kernel) rfl (show j_cnd 500 20000 499 19979 2 _ _ = true from rfl) ?_) ?_
    · refine Eq.trans (jr_s (pc2 := 1) (lv2 := [(0, .ref 117), (1, .int 22)]) (st2 := [.int 22]) jF_267_0 rfl rfl) ?_
      refine Eq.trans (jr_s (pc2 := 2) (lv2 := [(0, .ref 117), (1, .int 22)]) (st2 := [.long 22]) jF_267_1 rfl rfl) ?_
      refine Eq.trans (jr_s (pc2 := 3) (lv2 := [(0, .ref 117), (1, .int 22)]) (st2 := [.long 0, .long 22]) jF_267_2 rfl rfl) ?_
      refine Eq.trans (jr_s (pc2 := 6) (lv2 := [(0, .ref 117), (1, .int 22)]) (st2 := [.long 17, .long 0, .long 22]) jF_267_3 rfl rfl) ?_
      refine Eq.trans (jr_cS (as := [.long 22, .long 0, .long 17]) (rest := []) (v := some (.int 0)) (hp2 := jh2) (fr2 := 498) (lo2 := 19954) jF_267_6 rfl (show j_cnd 499 19979 498 19954 6 _ _ = true from rfl) ?_) ?_
      · refine Eq.trans (jr_s (pc2 := 1) (lv2 := [(0, .long 22), (2, .long 0), (4, .long 17)]) (st2 := [.long 22]) jF_232_0 rfl rfl) ?_
        refine Eq.trans (jr_s (pc2 := 2) (lv2 := [(0, .long 22), (2, .long 0), (4, .long 17)]) (st2 := [.long 0, .long 22]) jF_232_1 rfl rfl) ?_
        refine Eq.trans (jr_s (pc2 := 3) (lv2 := [(0, .long 22), (2, .long 0), (4, .long 17)]) (st2 := [.int 1]) jF_232_2 rfl rfl) ?_
        refine Eq.trans (jr_if0 jF_232_3 (by decide +kernel)) ?_
        refine Eq.trans (jr_s (pc2 := 7) (lv2 := [(0, .long 22), (2, .long 0), (4, .long 17)]) (st2 := [.long 22]) jF_232_6 rfl rfl) ?_
        refine Eq.trans (jr_s (pc2 := 9) (lv2 := [(0, .long 22), (2, .long 0), (4, .long 17)]) (st2 := [.long 17, .long 22]) jF_232_7 rfl rfl) ?_
        refine Eq.trans (jr_s (pc2 := 10) (lv2 := [(0, .long 22), (2, .long 0), (4, .long 17)]) (st2 := [.int 1]) jF_232_9 rfl rfl) ?_
        refine Eq.trans (jr_if1 jF_232_10 (by decide +kernel)) ?_
        refine Eq.trans (jr_s (pc2 := 18) (lv2 := [(0, .long 22), (2, .long 0), (4, .long 17)]) (st2 := [.int 0]) jF_232_17 rfl rfl) ?_
        exact jr_ri jF_232_18 rfl
      refine Eq.trans (jr_if1 jF_267_9 (by decide +kernel)) ?_
      refine Eq.trans (jr_s (pc2 := 23) (lv2 := [(0, .ref 117), (1, .int 22)]) (st2 := [.int 22]) jF_267_22 rfl rfl) ?_
      refine Eq.trans (jr_s (pc2 := 25) (lv2 := [(0, .ref 117), (1, .int 22)]) (st2 := [.int 20, .int 22]) jF_267_23 rfl rfl) ?_
      refine Eq.trans (jr_s (pc2 := 26) (lv2 := [(0, .ref 117), (1, .int 22)]) (st2 := [.int 2]) jF_267_25 rfl rfl) ?_
      refine Eq.trans (jr_s (pc2 := 27) (lv2 := [(0, .ref 117), (1, .int 22)]) (st2 := [.long 2]) jF_267_26 rfl rfl) ?_
      refine Eq.trans (jr_s (pc2 := 28) (lv2 := [(0, .ref 117), (1, .int 22)]) (st2 := [.long 0, .long 2]) jF_267_27 rfl rfl) ?_
      refine Eq.trans (jr_s (pc2 := 29) (lv2 := [(0, .ref 117), (1, .int 22)]) (st2 := [.ref 117, .long 0, .long 2]) jF_267_28 rfl rfl) ?_
      refine Eq.trans (jr_gf (v := .int 0) jF_267_29 (by decide +kernel)) ?_
      refine Eq.trans (jr_s (pc2 := 33) (lv2 := [(0, .ref 117), (1, .int 22)]) (st2 := [.int 1, .int 0, .long 0, .long 2]) jF_267_32 rfl rfl) ?_
      refine Eq.trans (jr_s (pc2 := 34) (lv2 := [(0, .ref 117), (1, .int 22)]) (st2 := [.int (-1), .long 0, .long 2]) jF_267_33 rfl rfl) ?_
      refine Eq.trans (jr_s (pc2 := 35) (lv2 := [(0, .ref 117), (1, .int 22)]) (st2 := [.long (-1), .long 0, .long 2]) jF_267_34 rfl rfl) ?_
      refine Eq.trans (jr_cS (as := [.long 2, .long 0, .long (-1)]) (rest := []) (v := some (.int 0)) (hp2 := jh2) (fr2 := 498) (lo2 := 19954) jF_267_35 rfl (show j_cnd 499 19979 498 19954 6 _ _ = true from rfl) ?_) ?_
      · refine Eq.trans (jr_s (pc2 := 1) (lv2 := [(0, .long 2), (2, .long 0), (4, .long (-1))]) (st2 := [.long 2]) jF_232_0 rfl rfl) ?_
        refine Eq.trans (jr_s (pc2 := 2) (lv2 := [(0, .long 2), (2, .long 0), (4, .long (-1))]) (st2 := [.long 0, .long 2]) jF_232_1 rfl rfl) ?_
        refine Eq.trans (jr_s (pc2 := 3) (lv2 := [(0, .long 2), (2, .long 0), (4, .long (-1))]) (st2 := [.int 1]) jF_232_2 rfl rfl) ?_
        refine Eq.trans (jr_if0 jF_232_3 (by decide +kernel)) ?_
        refine Eq.trans (jr_s (pc2 := 7) (lv2 := [(0, .long 2), (2, .long 0), (4, .long (-1))]) (st2 := [.long 2]) jF_232_6 rfl rfl) ?_
        refine Eq.trans (jr_s (pc2 := 9) (lv2 := [(0, .long 2), (2, .long 0), (4, .long (-1))]) (st2 := [.long (-1), .long 2]) jF_232_7 rfl rfl) ?_
        refine Eq.trans (jr_s (pc2 := 10) (lv2 := [(0, .long 2), (2, .long 0), (4, .long (-1))]) (st2 := [.int 1]) jF_232_9 rfl rfl) ?_
        refine Eq.trans (jr_if1 jF_232_10 (by decide +kernel)) ?_
        refine Eq.trans (jr_s (pc2 := 18) (lv2 := [(0, .long 2), (2, .long 0), (4, .long (-1))]) (st2 := [.int 0]) jF_232_17 rfl rfl) ?_
        exact jr_ri jF_232_18 rfl
      refine Eq.trans (jr_if1 jF_267_38 (by decide +kernel)) ?_
      refine Eq.trans (jr_s (pc2 := 56) (lv2 := [(0, .ref 117), (1, .int 22)]) (st2 := [.long 0]) jF_267_55 rfl rfl) ?_
      exact jr_rl jF_267_56
    refine Eq.trans (jr_s (pc2 := 6) (lv2 := [(3, .long 0), (0, .ref 117), (1, .int 22), (2, .int a2)]) (st2 := []) jF_266_5 rfl rfl) ?_
    refine Eq.trans (jr_s (pc2 := 7) (lv2 := [(3, .long 0), (0, .ref 117), (1, .int 22), (2, .int a2)]) (st2 := [.long 0]) jF_266_6 rfl rfl) ?_
    refine Eq.trans (jr_s (pc2 := 8) (lv2 := [(3, .long 0), (0, .ref 117), (1, .int 22), (2, .int a2)]) (st2 := [.long 0, .long 0]) jF_266_7 rfl rfl) ?_
    refine Eq.trans (jr_s (pc2 := 9) (lv2 := [(3, .long 0), (0, .ref 117), (1, .int 22), (2, .int a2)]) (st2 := [.int 0]) jF_266_8 rfl rfl) ?_
    refine Eq.trans (jr_if1 jF_266_9 (by decide +kernel)) ?_
    refine Eq.trans (jr_s (pc2 := 25) (lv2 := [(3, .long 0), (0, .ref 117), (1, .int 22), (2, .int a2)]) (st2 := [.int (-1)]) jF_266_24 rfl rfl) ?_
    exact jr_ri jF_266_25 rfl
set_option maxHeartbeats 8000000 in
set_option maxRecDepth 100000 in
theorem pm_letter_L94 (a2 : Int32) (hl_a2 : 6 ≤ a2.toInt) (hh_a2 : a2.toInt ≤ 2147483647) : PM 92 266 [.int 23, .int a2] := by
  refine ⟨60000, 60000, (-1), jh2, jh2, ?_, ?_, by decide +kernel⟩
  · refine Eq.trans (jr_s (pc2 := 1) (lv2 := [(0, .ref 9), (1, .int 23), (2, .int a2)]) (st2 := [.ref 9]) jF_92_0 rfl rfl) ?_
    refine Eq.trans (jr_gf (v := .ref 20) jF_92_1 (by decide +kernel)) ?_
    refine Eq.trans (jr_s (pc2 := 5) (lv2 := [(0, .ref 9), (1, .int 23), (2, .int a2)]) (st2 := [.int 23, .ref 20]) jF_92_4 rfl rfl) ?_
    refine Eq.trans (jr_s (pc2 := 6) (lv2 := [(0, .ref 9), (1, .int 23), (2, .int a2)]) (st2 := [.int a2, .int 23, .ref 20]) jF_92_5 rfl rfl) ?_
    refine Eq.trans (jr_cV (a := 20) (as := [.int 23, .int a2]) (rest := []) (v := some (.int (-1))) (hp2 := jh2) (fr2 := 499) (lo2 := 19978) jF_92_6 (by decide +kernel) rfl (show j_cnd 500 20000 499 19978 3 _ _ = true from rfl) ?_) ?_
    · refine Eq.trans (jr_s (pc2 := 1) (lv2 := [(0, .ref 20), (1, .int 23), (2, .int a2)]) (st2 := [.int 23]) jF_93_0 rfl rfl) ?_
      refine Eq.trans (jr_if0 jF_93_1 (by decide +kernel)) ?_
      refine Eq.trans (jr_s (pc2 := 5) (lv2 := [(0, .ref 20), (1, .int 23), (2, .int a2)]) (st2 := [.int 23]) jF_93_4 rfl rfl) ?_
      refine Eq.trans (jr_s (pc2 := 6) (lv2 := [(0, .ref 20), (1, .int 23), (2, .int a2)]) (st2 := [.ref 20, .int 23]) jF_93_5 rfl rfl) ?_
      refine Eq.trans (jr_gf (v := .ref 21) jF_93_6 (by decide +kernel)) ?_
      refine Eq.trans (jr_al (v := 25) jF_93_9 (by decide +kernel)) ?_
      refine Eq.trans (jr_ic0 jF_93_10 (by decide +kernel)) ?_
      refine Eq.trans (jr_s (pc2 := 14) (lv2 := [(0, .ref 20), (1, .int 23), (2, .int a2)]) (st2 := [.int a2]) jF_93_13 rfl rfl) ?_
      refine Eq.trans (jr_if0 jF_93_14 (jk_lt_ge (show (0 : Int32).toInt ≤ (a2 : Int32).toInt by rw [show (0 : Int32).toInt = 0 from by decide]; omega))) ?_
      refine Eq.trans (jr_s (pc2 := 18) (lv2 := [(0, .ref 20), (1, .int 23), (2, .int a2)]) (st2 := [.int a2]) jF_93_17 rfl rfl) ?_
      refine Eq.trans (jr_s (pc2 := 20) (lv2 := [(0, .ref 20), (1, .int 23), (2, .int a2)]) (st2 := [.int 6, .int a2]) jF_93_18 rfl rfl) ?_
      refine Eq.trans (jr_ic1 jF_93_20 (jk_ge_ge (show (6 : Int32).toInt ≤ (a2 : Int32).toInt by rw [show (6 : Int32).toInt = 6 from by decide]; omega))) ?_
      refine Eq.trans (jr_s (pc2 := 33) (lv2 := [(0, .ref 20), (1, .int 23), (2, .int a2)]) (st2 := [.int (-1)]) jF_93_32 rfl rfl) ?_
      exact jr_ri jF_93_33 rfl
    exact jr_ri jF_92_9 rfl
  · refine Eq.trans (jr_s (pc2 := 1) (lv2 := [(0, .ref 117), (1, .int 23), (2, .int a2)]) (st2 := [.ref 117]) jF_266_0 rfl rfl) ?_
    refine Eq.trans (jr_s (pc2 := 2) (lv2 := [(0, .ref 117), (1, .int 23), (2, .int a2)]) (st2 := [.int 23, .ref 117]) jF_266_1 rfl rfl) ?_
    refine Eq.trans (jr_cV (a := 117) (as := [.int 23]) (rest := []) (v := some (.long 0)) (hp2 := jh2) (fr2 := 499) (lo2 := 19979) jF_266_2 (by decide +kernel) rfl (show j_cnd 500 20000 499 19979 2 _ _ = true from rfl) ?_) ?_
    · refine Eq.trans (jr_s (pc2 := 1) (lv2 := [(0, .ref 117), (1, .int 23)]) (st2 := [.int 23]) jF_267_0 rfl rfl) ?_
      refine Eq.trans (jr_s (pc2 := 2) (lv2 := [(0, .ref 117), (1, .int 23)]) (st2 := [.long 23]) jF_267_1 rfl rfl) ?_
      refine Eq.trans (jr_s (pc2 := 3) (lv2 := [(0, .ref 117), (1, .int 23)]) (st2 := [.long 0, .long 23]) jF_267_2 rfl rfl) ?_
      refine Eq.trans (jr_s (pc2 := 6) (lv2 := [(0, .ref 117), (1, .int 23)]) (st2 := [.long 17, .long 0, .long 23]) jF_267_3 rfl rfl) ?_
      refine Eq.trans (jr_cS (as := [.long 23, .long 0, .long 17]) (rest := []) (v := some (.int 0)) (hp2 := jh2) (fr2 := 498) (lo2 := 19954) jF_267_6 rfl (show j_cnd 499 19979 498 19954 6 _ _ = true from rfl) ?_) ?_
      · refine Eq.trans (jr_s (pc2 := 1) (lv2 := [(0, .long 23), (2, .long 0), (4, .long 17)]) (st2 := [.long 23]) jF_232_0 rfl rfl) ?_
        refine Eq.trans (jr_s (pc2 := 2) (lv2 := [(0, .long 23), (2, .long 0), (4, .long 17)]) (st2 := [.long 0, .long 23]) jF_232_1 rfl rfl) ?_
        refine Eq.trans (jr_s (pc2 := 3) (lv2 := [(0, .long 23), (2, .long 0), (4, .long 17)]) (st2 := [.int 1]) jF_232_2 rfl rfl) ?_
        refine Eq.trans (jr_if0 jF_232_3 (by decide +kernel)) ?_
        refine Eq.trans (jr_s (pc2 := 7) (lv2 := [(0, .long 23), (2, .long 0), (4, .long 17)]) (st2 := [.long 23]) jF_232_6 rfl rfl) ?_
        refine Eq.trans (jr_s (pc2 := 9) (lv2 := [(0, .long 23), (2, .long 0), (4, .long 17)]) (st2 := [.long 17, .long 23]) jF_232_7 rfl rfl) ?_
        refine Eq.trans (jr_s (pc2 := 10) (lv2 := [(0, .long 23), (2, .long 0), (4, .long 17)]) (st2 := [.int 1]) jF_232_9 rfl rfl) ?_
        refine Eq.trans (jr_if1 jF_232_10 (by decide +kernel)) ?_
        refine Eq.trans (jr_s (pc2 := 18) (lv2 := [(0, .long 23), (2, .long 0), (4, .long 17)]) (st2 := [.int 0]) jF_232_17 rfl rfl) ?_
        exact jr_ri jF_232_18 rfl
      refine Eq.trans (jr_if1 jF_267_9 (by decide +kernel)) ?_
      refine Eq.trans (jr_s (pc2 := 23) (lv2 := [(0, .ref 117), (1, .int 23)]) (st2 := [.int 23]) jF_267_22 rfl rfl) ?_
      refine Eq.trans (jr_s (pc2 := 25) (lv2 := [(0, .ref 117), (1, .int 23)]) (st2 := [.int 20, .int 23]) jF_267_23 rfl rfl) ?_
      refine Eq.trans (jr_s (pc2 := 26) (lv2 := [(0, .ref 117), (1, .int 23)]) (st2 := [.int 3]) jF_267_25 rfl rfl) ?_
      refine Eq.trans (jr_s (pc2 := 27) (lv2 := [(0, .ref 117), (1, .int 23)]) (st2 := [.long 3]) jF_267_26 rfl rfl) ?_
      refine Eq.trans (jr_s (pc2 := 28) (lv2 := [(0, .ref 117), (1, .int 23)]) (st2 := [.long 0, .long 3]) jF_267_27 rfl rfl) ?_
      refine Eq.trans (jr_s (pc2 := 29) (lv2 := [(0, .ref 117), (1, .int 23)]) (st2 := [.ref 117, .long 0, .long 3]) jF_267_28 rfl rfl) ?_
      refine Eq.trans (jr_gf (v := .int 0) jF_267_29 (by decide +kernel)) ?_
      refine Eq.trans (jr_s (pc2 := 33) (lv2 := [(0, .ref 117), (1, .int 23)]) (st2 := [.int 1, .int 0, .long 0, .long 3]) jF_267_32 rfl rfl) ?_
      refine Eq.trans (jr_s (pc2 := 34) (lv2 := [(0, .ref 117), (1, .int 23)]) (st2 := [.int (-1), .long 0, .long 3]) jF_267_33 rfl rfl) ?_
      refine Eq.trans (jr_s (pc2 := 35) (lv2 := [(0, .ref 117), (1, .int 23)]) (st2 := [.long (-1), .long 0, .long 3]) jF_267_34 rfl rfl) ?_
      refine Eq.trans (jr_cS (as := [.long 3, .long 0, .long (-1)]) (rest := []) (v := some (.int 0)) (hp2 := jh2) (fr2 := 498) (lo2 := 19954) jF_267_35 rfl (show j_cnd 499 19979 498 19954 6 _ _ = true from rfl) ?_) ?_
      · refine Eq.trans (jr_s (pc2 := 1) (lv2 := [(0, .long 3), (2, .long 0), (4, .long (-1))]) (st2 := [.long 3]) jF_232_0 rfl rfl) ?_
        refine Eq.trans (jr_s (pc2 := 2) (lv2 := [(0, .long 3), (2, .long 0), (4, .long (-1))]) (st2 := [.long 0, .long 3]) jF_232_1 rfl rfl) ?_
        refine Eq.trans (jr_s (pc2 := 3) (lv2 := [(0, .long 3), (2, .long 0), (4, .long (-1))]) (st2 := [.int 1]) jF_232_2 rfl rfl) ?_
        refine Eq.trans (jr_if0 jF_232_3 (by decide +kernel)) ?_
        refine Eq.trans (jr_s (pc2 := 7) (lv2 := [(0, .long 3), (2, .long 0), (4, .long (-1))]) (st2 := [.long 3]) jF_232_6 rfl rfl) ?_
        refine Eq.trans (jr_s (pc2 := 9) (lv2 := [(0, .long 3), (2, .long 0), (4, .long (-1))]) (st2 := [.long (-1), .long 3]) jF_232_7 rfl rfl) ?_
        refine Eq.trans (jr_s (pc2 := 10) (lv2 := [(0, .long 3), (2, .long 0), (4, .long (-1))]) (st2 := [.int 1]) jF_232_9 rfl rfl) ?_
        refine Eq.trans (jr_if1 jF_232_10 (by decide +kernel)) ?_
        refine Eq.trans (jr_s (pc2 := 18) (lv2 := [(0, .long 3), (2, .long 0), (4, .long (-1))]) (st2 := [.int 0]) jF_232_17 rfl rfl) ?_
        exact jr_ri jF_232_18 rfl
      refine Eq.trans (jr_if1 jF_267_38 (by decide +kernel)) ?_
      refine Eq.trans (jr_s (pc2 := 56) (lv2 := [(0, .ref 117), (1, .int 23)]) (st2 := [.long 0]) jF_267_55 rfl rfl) ?_
      exact jr_rl jF_267_56
    refine Eq.trans (jr_s (pc2 := 6) (lv2 := [(3, .long 0), (0, .ref 117), (1, .int 23), (2, .int a2)]) (st2 := []) jF_266_5 rfl rfl) ?_
    refine Eq.trans (jr_s (pc2 := 7) (lv2 := [(3, .long 0), (0, .ref 117), (1, .int 23), (2, .int a2)]) (st2 := [.long 0]) jF_266_6 rfl rfl) ?_
    refine Eq.trans (jr_s (pc2 := 8) (lv2 := [(3, .long 0), (0, .ref 117), (1, .int 23), (2, .int a2)]) (st2 := [.long 0, .long 0]) jF_266_7 rfl rfl) ?_
    refine Eq.trans (jr_s (pc2 := 9) (lv2 := [(3, .long 0), (0, .ref 117), (1, .int 23), (2, .int a2)]) (st2 := [.int 0]) jF_266_8 rfl rfl) ?_
    refine Eq.trans (jr_if1 jF_266_9 (by decide +kernel)) ?_
    refine Eq.trans (jr_s (pc2 := 25) (lv2 := [(3, .long 0), (0, .ref 117), (1, .int 23), (2, .int a2)]) (st2 := [.int (-1)]) jF_266_24 rfl rfl) ?_
    exact jr_ri jF_266_25 rfl
set_option maxHeartbeats 8000000 in
set_option maxRecDepth 100000 in
theorem pm_letter_L95 (a2 : Int32) (hl_a2 : 6 ≤ a2.toInt) (hh_a2 : a2.toInt ≤ 2147483647) : PM 92 266 [.int 24, .int a2] := by
  refine ⟨60000, 60000, (-1), jh2, jh2, ?_, ?_, by decide +kernel⟩
  · refine Eq.trans (jr_s (pc2 := 1) (lv2 := [(0, .ref 9), (1, .int 24), (2, .int a2)]) (st2 := [.ref 9]) jF_92_0 rfl rfl) ?_
    refine Eq.trans (jr_gf (v := .ref 20) jF_92_1 (by decide +kernel)) ?_
    refine Eq.trans (jr_s (pc2 := 5) (lv2 := [(0, .ref 9), (1, .int 24), (2, .int a2)]) (st2 := [.int 24, .ref 20]) jF_92_4 rfl rfl) ?_
    refine Eq.trans (jr_s (pc2 := 6) (lv2 := [(0, .ref 9), (1, .int 24), (2, .int a2)]) (st2 := [.int a2, .int 24, .ref 20]) jF_92_5 rfl rfl) ?_
    refine Eq.trans (jr_cV (a := 20) (as := [.int 24, .int a2]) (rest := []) (v := some (.int (-1))) (hp2 := jh2) (fr2 := 499) (lo2 := 19978) jF_92_6 (by decide +kernel) rfl (show j_cnd 500 20000 499 19978 3 _ _ = true from rfl) ?_) ?_
    · refine Eq.trans (jr_s (pc2 := 1) (lv2 := [(0, .ref 20), (1, .int 24), (2, .int a2)]) (st2 := [.int 24]) jF_93_0 rfl rfl) ?_
      refine Eq.trans (jr_if0 jF_93_1 (by decide +kernel)) ?_
      refine Eq.trans (jr_s (pc2 := 5) (lv2 := [(0, .ref 20), (1, .int 24), (2, .int a2)]) (st2 := [.int 24]) jF_93_4 rfl rfl) ?_
      refine Eq.trans (jr_s (pc2 := 6) (lv2 := [(0, .ref 20), (1, .int 24), (2, .int a2)]) (st2 := [.ref 20, .int 24]) jF_93_5 rfl rfl) ?_
      refine Eq.trans (jr_gf (v := .ref 21) jF_93_6 (by decide +kernel)) ?_
      refine Eq.trans (jr_al (v := 25) jF_93_9 (by decide +kernel)) ?_
      refine Eq.trans (jr_ic0 jF_93_10 (by decide +kernel)) ?_
      refine Eq.trans (jr_s (pc2 := 14) (lv2 := [(0, .ref 20), (1, .int 24), (2, .int a2)]) (st2 := [.int a2]) jF_93_13 rfl rfl) ?_
      refine Eq.trans (jr_if0 jF_93_14 (jk_lt_ge (show (0 : Int32).toInt ≤ (a2 : Int32).toInt by rw [show (0 : Int32).toInt = 0 from by decide]; omega))) ?_
      refine Eq.trans (jr_s (pc2 := 18) (lv2 := [(0, .ref 20), (1, .int 24), (2, .int a2)]) (st2 := [.int a2]) jF_93_17 rfl rfl) ?_
      refine Eq.trans (jr_s (pc2 := 20) (lv2 := [(0, .ref 20), (1, .int 24), (2, .int a2)]) (st2 := [.int 6, .int a2]) jF_93_18 rfl rfl) ?_
      refine Eq.trans (jr_ic1 jF_93_20 (jk_ge_ge (show (6 : Int32).toInt ≤ (a2 : Int32).toInt by rw [show (6 : Int32).toInt = 6 from by decide]; omega))) ?_
      refine Eq.trans (jr_s (pc2 := 33) (lv2 := [(0, .ref 20), (1, .int 24), (2, .int a2)]) (st2 := [.int (-1)]) jF_93_32 rfl rfl) ?_
      exact jr_ri jF_93_33 rfl
    exact jr_ri jF_92_9 rfl
  · refine Eq.trans (jr_s (pc2 := 1) (lv2 := [(0, .ref 117), (1, .int 24), (2, .int a2)]) (st2 := [.ref 117]) jF_266_0 rfl rfl) ?_
    refine Eq.trans (jr_s (pc2 := 2) (lv2 := [(0, .ref 117), (1, .int 24), (2, .int a2)]) (st2 := [.int 24, .ref 117]) jF_266_1 rfl rfl) ?_
    refine Eq.trans (jr_cV (a := 117) (as := [.int 24]) (rest := []) (v := some (.long 0)) (hp2 := jh2) (fr2 := 499) (lo2 := 19979) jF_266_2 (by decide +kernel) rfl (show j_cnd 500 20000 499 19979 2 _ _ = true from rfl) ?_) ?_
    · refine Eq.trans (jr_s (pc2 := 1) (lv2 := [(0, .ref 117), (1, .int 24)]) (st2 := [.int 24]) jF_267_0 rfl rfl) ?_
      refine Eq.trans (jr_s (pc2 := 2) (lv2 := [(0, .ref 117), (1, .int 24)]) (st2 := [.long 24]) jF_267_1 rfl rfl) ?_
      refine Eq.trans (jr_s (pc2 := 3) (lv2 := [(0, .ref 117), (1, .int 24)]) (st2 := [.long 0, .long 24]) jF_267_2 rfl rfl) ?_
      refine Eq.trans (jr_s (pc2 := 6) (lv2 := [(0, .ref 117), (1, .int 24)]) (st2 := [.long 17, .long 0, .long 24]) jF_267_3 rfl rfl) ?_
      refine Eq.trans (jr_cS (as := [.long 24, .long 0, .long 17]) (rest := []) (v := some (.int 0)) (hp2 := jh2) (fr2 := 498) (lo2 := 19954) jF_267_6 rfl (show j_cnd 499 19979 498 19954 6 _ _ = true from rfl) ?_) ?_
      · refine Eq.trans (jr_s (pc2 := 1) (lv2 := [(0, .long 24), (2, .long 0), (4, .long 17)]) (st2 := [.long 24]) jF_232_0 rfl rfl) ?_
        refine Eq.trans (jr_s (pc2 := 2) (lv2 := [(0, .long 24), (2, .long 0), (4, .long 17)]) (st2 := [.long 0, .long 24]) jF_232_1 rfl rfl) ?_
        refine Eq.trans (jr_s (pc2 := 3) (lv2 := [(0, .long 24), (2, .long 0), (4, .long 17)]) (st2 := [.int 1]) jF_232_2 rfl rfl) ?_
        refine Eq.trans (jr_if0 jF_232_3 (by decide +kernel)) ?_
        refine Eq.trans (jr_s (pc2 := 7) (lv2 := [(0, .long 24), (2, .long 0), (4, .long 17)]) (st2 := [.long 24]) jF_232_6 rfl rfl) ?_
        refine Eq.trans (jr_s (pc2 := 9) (lv2 := [(0, .long 24), (2, .long 0), (4, .long 17)]) (st2 := [.long 17, .long 24]) jF_232_7 rfl rfl) ?_
        refine Eq.trans (jr_s (pc2 := 10) (lv2 := [(0, .long 24), (2, .long 0), (4, .long 17)]) (st2 := [.int 1]) jF_232_9 rfl rfl) ?_
        refine Eq.trans (jr_if1 jF_232_10 (by decide +kernel)) ?_
        refine Eq.trans (jr_s (pc2 := 18) (lv2 := [(0, .long 24), (2, .long 0), (4, .long 17)]) (st2 := [.int 0]) jF_232_17 rfl rfl) ?_
        exact jr_ri jF_232_18 rfl
      refine Eq.trans (jr_if1 jF_267_9 (by decide +kernel)) ?_
      refine Eq.trans (jr_s (pc2 := 23) (lv2 := [(0, .ref 117), (1, .int 24)]) (st2 := [.int 24]) jF_267_22 rfl rfl) ?_
      refine Eq.trans (jr_s (pc2 := 25) (lv2 := [(0, .ref 117), (1, .int 24)]) (st2 := [.int 20, .int 24]) jF_267_23 rfl rfl) ?_
      refine Eq.trans (jr_s (pc2 := 26) (lv2 := [(0, .ref 117), (1, .int 24)]) (st2 := [.int 4]) jF_267_25 rfl rfl) ?_
      refine Eq.trans (jr_s (pc2 := 27) (lv2 := [(0, .ref 117), (1, .int 24)]) (st2 := [.long 4]) jF_267_26 rfl rfl) ?_
      refine Eq.trans (jr_s (pc2 := 28) (lv2 := [(0, .ref 117), (1, .int 24)]) (st2 := [.long 0, .long 4]) jF_267_27 rfl rfl) ?_
      refine Eq.trans (jr_s (pc2 := 29) (lv2 := [(0, .ref 117), (1, .int 24)]) (st2 := [.ref 117, .long 0, .long 4]) jF_267_28 rfl rfl) ?_
      refine Eq.trans (jr_gf (v := .int 0) jF_267_29 (by decide +kernel)) ?_
      refine Eq.trans (jr_s (pc2 := 33) (lv2 := [(0, .ref 117), (1, .int 24)]) (st2 := [.int 1, .int 0, .long 0, .long 4]) jF_267_32 rfl rfl) ?_
      refine Eq.trans (jr_s (pc2 := 34) (lv2 := [(0, .ref 117), (1, .int 24)]) (st2 := [.int (-1), .long 0, .long 4]) jF_267_33 rfl rfl) ?_
      refine Eq.trans (jr_s (pc2 := 35) (lv2 := [(0, .ref 117), (1, .int 24)]) (st2 := [.long (-1), .long 0, .long 4]) jF_267_34 rfl rfl) ?_
      refine Eq.trans (jr_cS (as := [.long 4, .long 0, .long (-1)]) (rest := []) (v := some (.int 0)) (hp2 := jh2) (fr2 := 498) (lo2 := 19954) jF_267_35 rfl (show j_cnd 499 19979 498 19954 6 _ _ = true from rfl) ?_) ?_
      · refine Eq.trans (jr_s (pc2 := 1) (lv2 := [(0, .long 4), (2, .long 0), (4, .long (-1))]) (st2 := [.long 4]) jF_232_0 rfl rfl) ?_
        refine Eq.trans (jr_s (pc2 := 2) (lv2 := [(0, .long 4), (2, .long 0), (4, .long (-1))]) (st2 := [.long 0, .long 4]) jF_232_1 rfl rfl) ?_
        refine Eq.trans (jr_s (pc2 := 3) (lv2 := [(0, .long 4), (2, .long 0), (4, .long (-1))]) (st2 := [.int 1]) jF_232_2 rfl rfl) ?_
        refine Eq.trans (jr_if0 jF_232_3 (by decide +kernel)) ?_
        refine Eq.trans (jr_s (pc2 := 7) (lv2 := [(0, .long 4), (2, .long 0), (4, .long (-1))]) (st2 := [.long 4]) jF_232_6 rfl rfl) ?_
        refine Eq.trans (jr_s (pc2 := 9) (lv2 := [(0, .long 4), (2, .long 0), (4, .long (-1))]) (st2 := [.long (-1), .long 4]) jF_232_7 rfl rfl) ?_
        refine Eq.trans (jr_s (pc2 := 10) (lv2 := [(0, .long 4), (2, .long 0), (4, .long (-1))]) (st2 := [.int 1]) jF_232_9 rfl rfl) ?_
        refine Eq.trans (jr_if1 jF_232_10 (by decide +kernel)) ?_
        refine Eq.trans (jr_s (pc2 := 18) (lv2 := [(0, .long 4), (2, .long 0), (4, .long (-1))]) (st2 := [.int 0]) jF_232_17 rfl rfl) ?_
        exact jr_ri jF_232_18 rfl
      refine Eq.trans (jr_if1 jF_267_38 (by decide +kernel)) ?_
      refine Eq.trans (jr_s (pc2 := 56) (lv2 := [(0, .ref 117), (1, .int 24)]) (st2 := [.long 0]) jF_267_55 rfl rfl) ?_
      exact jr_rl jF_267_56
    refine Eq.trans (jr_s (pc2 := 6) (lv2 := [(3, .long 0), (0, .ref 117), (1, .int 24), (2, .int a2)]) (st2 := []) jF_266_5 rfl rfl) ?_
    refine Eq.trans (jr_s (pc2 := 7) (lv2 := [(3, .long 0), (0, .ref 117), (1, .int 24), (2, .int a2)]) (st2 := [.long 0]) jF_266_6 rfl rfl) ?_
    refine Eq.trans (jr_s (pc2 := 8) (lv2 := [(3, .long 0), (0, .ref 117), (1, .int 24), (2, .int a2)]) (st2 := [.long 0, .long 0]) jF_266_7 rfl rfl) ?_
    refine Eq.trans (jr_s (pc2 := 9) (lv2 := [(3, .long 0), (0, .ref 117), (1, .int 24), (2, .int a2)]) (st2 := [.int 0]) jF_266_8 rfl rfl) ?_
    refine Eq.trans (jr_if1 jF_266_9 (by decide +kernel)) ?_
    refine Eq.trans (jr_s (pc2 := 25) (lv2 := [(3, .long 0), (0, .ref 117), (1, .int 24), (2, .int a2)]) (st2 := [.int (-1)]) jF_266_24 rfl rfl) ?_
    exact jr_ri jF_266_25 rfl
set_option maxHeartbeats 8000000 in
set_option maxRecDepth 100000 in
theorem pm_letter_L96 (a1 a2 : Int32) (hl_a1 : 25 ≤ a1.toInt) (hh_a1 : a1.toInt ≤ 2147483647) (hl_a2 : (-2147483648) ≤ a2.toInt) (hh_a2 : a2.toInt ≤ 2147483647) : PM 92 266 [.int a1, .int a2] := by
  refine ⟨60000, 60000, (-1), jh2, jh2, ?_, ?_, by decide +kernel⟩
  · refine Eq.trans (jr_s (pc2 := 1) (lv2 := [(0, .ref 9), (1, .int a1), (2, .int a2)]) (st2 := [.ref 9]) jF_92_0 rfl rfl) ?_
    refine Eq.trans (jr_gf (v := .ref 20) jF_92_1 (by decide +kernel)) ?_
    refine Eq.trans (jr_s (pc2 := 5) (lv2 := [(0, .ref 9), (1, .int a1), (2, .int a2)]) (st2 := [.int a1, .ref 20]) jF_92_4 rfl rfl) ?_
    refine Eq.trans (jr_s (pc2 := 6) (lv2 := [(0, .ref 9), (1, .int a1), (2, .int a2)]) (st2 := [.int a2, .int a1, .ref 20]) jF_92_5 rfl rfl) ?_
    refine Eq.trans (jr_cV (a := 20) (as := [.int a1, .int a2]) (rest := []) (v := some (.int (-1))) (hp2 := jh2) (fr2 := 499) (lo2 := 19978) jF_92_6 (by decide +kernel) rfl (show j_cnd 500 20000 499 19978 3 _ _ = true from rfl) ?_) ?_
    · refine Eq.trans (jr_s (pc2 := 1) (lv2 := [(0, .ref 20), (1, .int a1), (2, .int a2)]) (st2 := [.int a1]) jF_93_0 rfl rfl) ?_
      refine Eq.trans (jr_if0 jF_93_1 (jk_lt_ge (show (0 : Int32).toInt ≤ (a1 : Int32).toInt by rw [show (0 : Int32).toInt = 0 from by decide]; omega))) ?_
      refine Eq.trans (jr_s (pc2 := 5) (lv2 := [(0, .ref 20), (1, .int a1), (2, .int a2)]) (st2 := [.int a1]) jF_93_4 rfl rfl) ?_
      refine Eq.trans (jr_s (pc2 := 6) (lv2 := [(0, .ref 20), (1, .int a1), (2, .int a2)]) (st2 := [.ref 20, .int a1]) jF_93_5 rfl rfl) ?_
      refine Eq.trans (jr_gf (v := .ref 21) jF_93_6 (by decide +kernel)) ?_
      refine Eq.trans (jr_al (v := 25) jF_93_9 (by decide +kernel)) ?_
      refine Eq.trans (jr_ic1 jF_93_10 (jk_ge_ge (show (25 : Int32).toInt ≤ (a1 : Int32).toInt by rw [show (25 : Int32).toInt = 25 from by decide]; omega))) ?_
      refine Eq.trans (jr_s (pc2 := 33) (lv2 := [(0, .ref 20), (1, .int a1), (2, .int a2)]) (st2 := [.int (-1)]) jF_93_32 rfl rfl) ?_
      exact jr_ri jF_93_33 rfl
    exact jr_ri jF_92_9 rfl
  · refine Eq.trans (jr_s (pc2 := 1) (lv2 := [(0, .ref 117), (1, .int a1), (2, .int a2)]) (st2 := [.ref 117]) jF_266_0 rfl rfl) ?_
    refine Eq.trans (jr_s (pc2 := 2) (lv2 := [(0, .ref 117), (1, .int a1), (2, .int a2)]) (st2 := [.int a1, .ref 117]) jF_266_1 rfl rfl) ?_
    refine Eq.trans (jr_cV (a := 117) (as := [.int a1]) (rest := []) (v := some (.long 0)) (hp2 := jh2) (fr2 := 499) (lo2 := 19979) jF_266_2 (by decide +kernel) rfl (show j_cnd 500 20000 499 19979 2 _ _ = true from rfl) ?_) ?_
    · refine Eq.trans (jr_s (pc2 := 1) (lv2 := [(0, .ref 117), (1, .int a1)]) (st2 := [.int a1]) jF_267_0 rfl rfl) ?_
      refine Eq.trans (jr_s (pc2 := 2) (lv2 := [(0, .ref 117), (1, .int a1)]) (st2 := [.long (Int32.toInt64 a1)]) jF_267_1 rfl rfl) ?_
      refine Eq.trans (jr_s (pc2 := 3) (lv2 := [(0, .ref 117), (1, .int a1)]) (st2 := [.long 0, .long (Int32.toInt64 a1)]) jF_267_2 rfl rfl) ?_
      refine Eq.trans (jr_s (pc2 := 6) (lv2 := [(0, .ref 117), (1, .int a1)]) (st2 := [.long 17, .long 0, .long (Int32.toInt64 a1)]) jF_267_3 rfl rfl) ?_
      refine Eq.trans (jr_cS (as := [.long (Int32.toInt64 a1), .long 0, .long 17]) (rest := []) (v := some (.int 0)) (hp2 := jh2) (fr2 := 498) (lo2 := 19954) jF_267_6 rfl (show j_cnd 499 19979 498 19954 6 _ _ = true from rfl) ?_) ?_
      · refine Eq.trans (jr_s (pc2 := 1) (lv2 := [(0, .long (Int32.toInt64 a1)), (2, .long 0), (4, .long 17)]) (st2 := [.long (Int32.toInt64 a1)]) jF_232_0 rfl rfl) ?_
        refine Eq.trans (jr_s (pc2 := 2) (lv2 := [(0, .long (Int32.toInt64 a1)), (2, .long 0), (4, .long 17)]) (st2 := [.long 0, .long (Int32.toInt64 a1)]) jF_232_1 rfl rfl) ?_
        refine Eq.trans (jr_s (pc2 := 3) (lv2 := [(0, .long (Int32.toInt64 a1)), (2, .long 0), (4, .long 17)]) (st2 := [.int (lg_cmp (Int32.toInt64 a1) 0)]) jF_232_2 rfl rfl) ?_
        refine Eq.trans (jr_if0 jF_232_3 (jkl_lt_ge (show (0 : Int64).toInt ≤ ((Int32.toInt64 a1) : Int64).toInt by rw [Int32.toInt_toInt64, show (0 : Int64).toInt = 0 from by decide]; omega))) ?_
        refine Eq.trans (jr_s (pc2 := 7) (lv2 := [(0, .long (Int32.toInt64 a1)), (2, .long 0), (4, .long 17)]) (st2 := [.long (Int32.toInt64 a1)]) jF_232_6 rfl rfl) ?_
        refine Eq.trans (jr_s (pc2 := 9) (lv2 := [(0, .long (Int32.toInt64 a1)), (2, .long 0), (4, .long 17)]) (st2 := [.long 17, .long (Int32.toInt64 a1)]) jF_232_7 rfl rfl) ?_
        refine Eq.trans (jr_s (pc2 := 10) (lv2 := [(0, .long (Int32.toInt64 a1)), (2, .long 0), (4, .long 17)]) (st2 := [.int (lg_cmp (Int32.toInt64 a1) 17)]) jF_232_9 rfl rfl) ?_
        refine Eq.trans (jr_if1 jF_232_10 (jkl_gt_gt (show (17 : Int64).toInt < ((Int32.toInt64 a1) : Int64).toInt by rw [Int32.toInt_toInt64, show (17 : Int64).toInt = 17 from by decide]; omega))) ?_
        refine Eq.trans (jr_s (pc2 := 18) (lv2 := [(0, .long (Int32.toInt64 a1)), (2, .long 0), (4, .long 17)]) (st2 := [.int 0]) jF_232_17 rfl rfl) ?_
        exact jr_ri jF_232_18 rfl
      refine Eq.trans (jr_if1 jF_267_9 (by decide +kernel)) ?_
      refine Eq.trans (jr_s (pc2 := 23) (lv2 := [(0, .ref 117), (1, .int a1)]) (st2 := [.int a1]) jF_267_22 rfl rfl) ?_
      refine Eq.trans (jr_s (pc2 := 25) (lv2 := [(0, .ref 117), (1, .int a1)]) (st2 := [.int 20, .int a1]) jF_267_23 rfl rfl) ?_
      refine Eq.trans (jr_s (pc2 := 26) (lv2 := [(0, .ref 117), (1, .int a1)]) (st2 := [.int (a1 - 20)]) jF_267_25 rfl rfl) ?_
      refine Eq.trans (jr_s (pc2 := 27) (lv2 := [(0, .ref 117), (1, .int a1)]) (st2 := [.long (Int32.toInt64 (a1 - 20))]) jF_267_26 rfl rfl) ?_
      refine Eq.trans (jr_s (pc2 := 28) (lv2 := [(0, .ref 117), (1, .int a1)]) (st2 := [.long 0, .long (Int32.toInt64 (a1 - 20))]) jF_267_27 rfl rfl) ?_
      refine Eq.trans (jr_s (pc2 := 29) (lv2 := [(0, .ref 117), (1, .int a1)]) (st2 := [.ref 117, .long 0, .long (Int32.toInt64 (a1 - 20))]) jF_267_28 rfl rfl) ?_
      refine Eq.trans (jr_gf (v := .int 0) jF_267_29 (by decide +kernel)) ?_
      refine Eq.trans (jr_s (pc2 := 33) (lv2 := [(0, .ref 117), (1, .int a1)]) (st2 := [.int 1, .int 0, .long 0, .long (Int32.toInt64 (a1 - 20))]) jF_267_32 rfl rfl) ?_
      refine Eq.trans (jr_s (pc2 := 34) (lv2 := [(0, .ref 117), (1, .int a1)]) (st2 := [.int (-1), .long 0, .long (Int32.toInt64 (a1 - 20))]) jF_267_33 rfl rfl) ?_
      refine Eq.trans (jr_s (pc2 := 35) (lv2 := [(0, .ref 117), (1, .int a1)]) (st2 := [.long (-1), .long 0, .long (Int32.toInt64 (a1 - 20))]) jF_267_34 rfl rfl) ?_
      refine Eq.trans (jr_cS (as := [.long (Int32.toInt64 (a1 - 20)), .long 0, .long (-1)]) (rest := []) (v := some (.int 0)) (hp2 := jh2) (fr2 := 498) (lo2 := 19954) jF_267_35 rfl (show j_cnd 499 19979 498 19954 6 _ _ = true from rfl) ?_) ?_
      · refine Eq.trans (jr_s (pc2 := 1) (lv2 := [(0, .long (Int32.toInt64 (a1 - 20))), (2, .long 0), (4, .long (-1))]) (st2 := [.long (Int32.toInt64 (a1 - 20))]) jF_232_0 rfl rfl) ?_
        refine Eq.trans (jr_s (pc2 := 2) (lv2 := [(0, .long (Int32.toInt64 (a1 - 20))), (2, .long 0), (4, .long (-1))]) (st2 := [.long 0, .long (Int32.toInt64 (a1 - 20))]) jF_232_1 rfl rfl) ?_
        refine Eq.trans (jr_s (pc2 := 3) (lv2 := [(0, .long (Int32.toInt64 (a1 - 20))), (2, .long 0), (4, .long (-1))]) (st2 := [.int (lg_cmp (Int32.toInt64 (a1 - 20)) 0)]) jF_232_2 rfl rfl) ?_
        refine Eq.trans (jr_if0 jF_232_3 (jkl_lt_ge (show (0 : Int64).toInt ≤ ((Int32.toInt64 (a1 - 20)) : Int64).toInt by rw [Int32.toInt_toInt64, jo_sub (x := a1) (k := 20) (n := 20) (by decide) (by omega) (by omega), show (0 : Int64).toInt = 0 from by decide]; omega))) ?_
        refine Eq.trans (jr_s (pc2 := 7) (lv2 := [(0, .long (Int32.toInt64 (a1 - 20))), (2, .long 0), (4, .long (-1))]) (st2 := [.long (Int32.toInt64 (a1 - 20))]) jF_232_6 rfl rfl) ?_
        refine Eq.trans (jr_s (pc2 := 9) (lv2 := [(0, .long (Int32.toInt64 (a1 - 20))), (2, .long 0), (4, .long (-1))]) (st2 := [.long (-1), .long (Int32.toInt64 (a1 - 20))]) jF_232_7 rfl rfl) ?_
        refine Eq.trans (jr_s (pc2 := 10) (lv2 := [(0, .long (Int32.toInt64 (a1 - 20))), (2, .long 0), (4, .long (-1))]) (st2 := [.int (lg_cmp (Int32.toInt64 (a1 - 20)) (-1))]) jF_232_9 rfl rfl) ?_
        refine Eq.trans (jr_if1 jF_232_10 (jkl_gt_gt (show ((-1) : Int64).toInt < ((Int32.toInt64 (a1 - 20)) : Int64).toInt by rw [Int32.toInt_toInt64, jo_sub (x := a1) (k := 20) (n := 20) (by decide) (by omega) (by omega), show ((-1) : Int64).toInt = (-1) from by decide]; omega))) ?_
        refine Eq.trans (jr_s (pc2 := 18) (lv2 := [(0, .long (Int32.toInt64 (a1 - 20))), (2, .long 0), (4, .long (-1))]) (st2 := [.int 0]) jF_232_17 rfl rfl) ?_
        exact jr_ri jF_232_18 rfl
      refine Eq.trans (jr_if1 jF_267_38 (by decide +kernel)) ?_
      refine Eq.trans (jr_s (pc2 := 56) (lv2 := [(0, .ref 117), (1, .int a1)]) (st2 := [.long 0]) jF_267_55 rfl rfl) ?_
      exact jr_rl jF_267_56
    refine Eq.trans (jr_s (pc2 := 6) (lv2 := [(3, .long 0), (0, .ref 117), (1, .int a1), (2, .int a2)]) (st2 := []) jF_266_5 rfl rfl) ?_
    refine Eq.trans (jr_s (pc2 := 7) (lv2 := [(3, .long 0), (0, .ref 117), (1, .int a1), (2, .int a2)]) (st2 := [.long 0]) jF_266_6 rfl rfl) ?_
    refine Eq.trans (jr_s (pc2 := 8) (lv2 := [(3, .long 0), (0, .ref 117), (1, .int a1), (2, .int a2)]) (st2 := [.long 0, .long 0]) jF_266_7 rfl rfl) ?_
    refine Eq.trans (jr_s (pc2 := 9) (lv2 := [(3, .long 0), (0, .ref 117), (1, .int a1), (2, .int a2)]) (st2 := [.int 0]) jF_266_8 rfl rfl) ?_
    refine Eq.trans (jr_if1 jF_266_9 (by decide +kernel)) ?_
    refine Eq.trans (jr_s (pc2 := 25) (lv2 := [(3, .long 0), (0, .ref 117), (1, .int a1), (2, .int a2)]) (st2 := [.int (-1)]) jF_266_24 rfl rfl) ?_
    exact jr_ri jF_266_25 rfl
