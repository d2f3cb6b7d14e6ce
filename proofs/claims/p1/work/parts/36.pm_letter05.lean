set_option maxHeartbeats 8000000 in
set_option maxRecDepth 100000 in
theorem pm_letter_L73 (a2 : Int32) (hl_a2 : 6 ≤ a2.toInt) (hh_a2 : a2.toInt ≤ 2147483647) : PM 92 266 [.int 2, .int a2] := by
  refine ⟨60000, 60000, (-1), jh2, jh2, ?_, ?_, by decide +kernel⟩
  · refine Eq.trans (jr_s (pc2 := 1) (lv2 := [(0, .ref 9), (1, .int 2), (2, .int a2)]) (st2 := [.ref 9]) jF_92_0 rfl rfl) ?_
    refine Eq.trans (jr_gf (v := .ref 20) jF_92_1 (by decide +kernel)) ?_
    refine Eq.trans (jr_s (pc2 := 5) (lv2 := [(0, .ref 9), (1, .int 2), (2, .int a2)]) (st2 := [.int 2, .ref 20]) jF_92_4 rfl rfl) ?_
    refine Eq.trans (jr_s (pc2 := 6) (lv2 := [(0, .ref 9), (1, .int 2), (2, .int a2)]) (st2 := [.int a2, .int 2, .ref 20]) jF_92_5 rfl rfl) ?_
    refine Eq.trans (jr_cV (a := 20) (as := [.int 2, .int a2]) (rest := []) (v := some (.int (-1))) (hp2 := jh2) (fr2 := 499) (lo2 := 19978) jF_92_6 (by decide +kernel) rfl (show j_cnd 500 20000 499 19978 3 _ _ = true from rfl) ?_) ?_
    · refine Eq.trans (jr_s (pc2 := 1) (lv2 := [(0, .ref 20), (1, .int 2), (2, .int a2)]) (st2 := [.int 2]) jF_93_0 rfl rfl) ?_
      refine Eq.trans (jr_if0 jF_93_1 (by decide +kernel)) ?_
      refine Eq.trans (jr_s (pc2 := 5) (lv2 := [(0, .ref 20), (1, .int 2), (2, .int a2)]) (st2 := [.int 2]) jF_93_4 rfl rfl) ?_
      refine Eq.trans (jr_s (pc2 := 6) (lv2 := [(0, .ref 20), (1, .int 2), (2, .int a2)]) (st2 := [.ref 20, .int 2]) jF_93_5 rfl rfl) ?_
      refine Eq.trans (jr_gf (v := .ref 21) jF_93_6 (by decide +kernel)) ?_
      refine Eq.trans (jr_al (v := 25) jF_93_9 (by decide +kernel)) ?_
      refine Eq.trans (jr_ic0 jF_93_10 (by decide +kernel)) ?_
      refine Eq.trans (jr_s (pc2 := 14) (lv2 := [(0, .ref 20), (1, .int 2), (2, .int a2)]) (st2 := [.int a2]) jF_93_13 rfl rfl) ?_
      refine Eq.trans (jr_if0 jF_93_14 (jk_lt_ge (show (0 : Int32).toInt ≤ (a2 : Int32).toInt by rw [show (0 : Int32).toInt = 0 from by decide]; omega))) ?_
      refine Eq.trans (jr_s (pc2 := 18) (lv2 := [(0, .ref 20), (1, .int 2), (2, .int a2)]) (st2 := [.int a2]) jF_93_17 rfl rfl) ?_
      refine Eq.trans (jr_s (pc2 := 20) (lv2 := [(0, .ref 20), (1, .int 2), (2, .int a2)]) (st2 := [.int 6, .int a2]) jF_93_18 rfl rfl) ?_
      refine Eq.trans (jr_ic1 jF_93_20 (jk_ge_ge (show (6 : Int32).toInt ≤ (a2 : Int32).toInt by rw [show (6 : Int32).toInt = 6 from by decide]; omega))) ?_
      refine Eq.trans (jr_s (pc2 := 33) (lv2 := [(0, .ref 20), (1, .int 2), (2, .int a2)]) (st2 := [.int (-1)]) jF_93_32 rfl rfl) ?_
      exact jr_ri jF_93_33 rfl
    exact jr_ri jF_92_9 rfl
  · refine Eq.trans (jr_s (pc2 := 1) (lv2 := [(0, .ref 117), (1, .int 2), (2, .int a2)]) (st2 := [.ref 117]) jF_266_0 rfl rfl) ?_
    refine Eq.trans (jr_s (pc2 := 2) (lv2 := [(0, .ref 117), (1, .int 2), (2, .int a2)]) (st2 := [.int 2, .ref 117]) jF_266_1 rfl rfl) ?_
    refine Eq.trans (jr_cV (a := 117) (as := [.int 2]) (rest := []) (v := some (.long 0)) (hp2 := jh2) (fr2 := 499) (lo2 := 19979) jF_266_2 (by decide +kernel) rfl (show j_cnd 500 20000 499 19979 2 _ _ = true from rfl) ?_) ?_
    · refine Eq.trans (jr_s (pc2 := 1) (lv2 := [(0, .ref 117), (1, .int 2)]) (st2 := [.int 2]) jF_267_0 rfl rfl) ?_
      refine Eq.trans (jr_s (pc2 := 2) (lv2 := [(0, .ref 117), (1, .int 2)]) (st2 := [.long 2]) jF_267_1 rfl rfl) ?_
      refine Eq.trans (jr_s (pc2 := 3) (lv2 := [(0, .ref 117), (1, .int 2)]) (st2 := [.long 0, .long 2]) jF_267_2 rfl rfl) ?_
      refine Eq.trans (jr_s (pc2 := 6) (lv2 := [(0, .ref 117), (1, .int 2)]) (st2 := [.long 17, .long 0, .long 2]) jF_267_3 rfl rfl) ?_
      refine Eq.trans (jr_cS (as := [.long 2, .long 0, .long 17]) (rest := []) (v := some (.int 1)) (hp2 := jh2) (fr2 := 498) (lo2 := 19954) jF_267_6 rfl (show j_cnd 499 19979 498 19954 6 _ _ = true from rfl) ?_) ?_
      · refine Eq.trans (jr_s (pc2 := 1) (lv2 := [(0, .long 2), (2, .long 0), (4, .long 17)]) (st2 := [.long 2]) jF_232_0 rfl rfl) ?_
        refine Eq.trans (jr_s (pc2 := 2) (lv2 := [(0, .long 2), (2, .long 0), (4, .long 17)]) (st2 := [.long 0, .long 2]) jF_232_1 rfl rfl) ?_
        refine Eq.trans (jr_s (pc2 := 3) (lv2 := [(0, .long 2), (2, .long 0), (4, .long 17)]) (st2 := [.int 1]) jF_232_2 rfl rfl) ?_
        refine Eq.trans (jr_if0 jF_232_3 (by decide +kernel)) ?_
        refine Eq.trans (jr_s (pc2 := 7) (lv2 := [(0, .long 2), (2, .long 0), (4, .long 17)]) (st2 := [.long 2]) jF_232_6 rfl rfl) ?_
        refine Eq.trans (jr_s (pc2 := 9) (lv2 := [(0, .long 2), (2, .long 0), (4, .long 17)]) (st2 := [.long 17, .long 2]) jF_232_7 rfl rfl) ?_
        refine Eq.trans (jr_s (pc2 := 10) (lv2 := [(0, .long 2), (2, .long 0), (4, .long 17)]) (st2 := [.int (-1)]) jF_232_9 rfl rfl) ?_
        refine Eq.trans (jr_if0 jF_232_10 (by decide +kernel)) ?_
        refine Eq.trans (jr_s (pc2 := 14) (lv2 := [(0, .long 2), (2, .long 0), (4, .long 17)]) (st2 := [.int 1]) jF_232_13 rfl rfl) ?_
        refine Eq.trans (jr_s (pc2 := 18) (lv2 := [(0, .long 2), (2, .long 0), (4, .long 17)]) (st2 := [.int 1]) jF_232_14 rfl rfl) ?_
        exact jr_ri jF_232_18 rfl
      refine Eq.trans (jr_if0 jF_267_9 (by decide +kernel)) ?_
      refine Eq.trans (jr_s (pc2 := 13) (lv2 := [(0, .ref 117), (1, .int 2)]) (st2 := [.ref 117]) jF_267_12 rfl rfl) ?_
      refine Eq.trans (jr_gf (v := .ref 138) jF_267_13 (by decide +kernel)) ?_
      refine Eq.trans (jr_s (pc2 := 18) (lv2 := [(0, .ref 117), (1, .int 2)]) (st2 := [.int 18, .ref 138]) jF_267_16 rfl rfl) ?_
      refine Eq.trans (jr_s (pc2 := 19) (lv2 := [(0, .ref 117), (1, .int 2)]) (st2 := [.int 2, .int 18, .ref 138]) jF_267_18 rfl rfl) ?_
      refine Eq.trans (jr_s (pc2 := 20) (lv2 := [(0, .ref 117), (1, .int 2)]) (st2 := [.int 20, .ref 138]) jF_267_19 rfl rfl) ?_
      refine Eq.trans (jr_ldl (v := .long 0) jF_267_20 (by decide +kernel)) ?_
      exact jr_rl jF_267_21
    refine Eq.trans (jr_s (pc2 := 6) (lv2 := [(3, .long 0), (0, .ref 117), (1, .int 2), (2, .int a2)]) (st2 := []) jF_266_5 rfl rfl) ?_
    refine Eq.trans (jr_s (pc2 := 7) (lv2 := [(3, .long 0), (0, .ref 117), (1, .int 2), (2, .int a2)]) (st2 := [.long 0]) jF_266_6 rfl rfl) ?_
    refine Eq.trans (jr_s (pc2 := 8) (lv2 := [(3, .long 0), (0, .ref 117), (1, .int 2), (2, .int a2)]) (st2 := [.long 0, .long 0]) jF_266_7 rfl rfl) ?_
    refine Eq.trans (jr_s (pc2 := 9) (lv2 := [(3, .long 0), (0, .ref 117), (1, .int 2), (2, .int a2)]) (st2 := [.int 0]) jF_266_8 rfl rfl) ?_
    refine Eq.trans (jr_if1 jF_266_9 (by decide +kernel)) ?_
    refine Eq.trans (jr_s (pc2 := 25) (lv2 := [(3, .long 0), (0, .ref 117), (1, .int 2), (2, .int a2)]) (st2 := [.int (-1)]) jF_266_24 rfl rfl) ?_
    exact jr_ri jF_266_25 rfl
set_option maxHeartbeats 8000000 in
set_option maxRecDepth 100000 in
theorem pm_letter_L74 (a2 : Int32) (hl_a2 : 6 ≤ a2.toInt) (hh_a2 : a2.toInt ≤ 2147483647) : PM 92 266 [.int 3, .int a2] := by
  refine ⟨60000, 60000, (-1), jh2, jh2, ?_, ?_, by decide +kernel⟩
  · refine Eq.trans (jr_s (pc2 := 1) (lv2 := [(0, .ref 9), (1, .int 3), (2, .int a2)]) (st2 := [.ref 9]) jF_92_0 rfl rfl) ?_
    refine Eq.trans (jr_gf (v := .ref 20) jF_92_1 (by decide +kernel)) ?_
    refine Eq.trans (jr_s (pc2 := 5) (lv2 := [(0, .ref 9), (1, .int 3), (2, .int a2)]) (st2 := [.int 3, .ref 20]) jF_92_4 rfl rfl) ?_
    refine Eq.trans (jr_s (pc2 := 6) (lv2 := [(0, .ref 9), (1, .int 3), (2, .int a2)]) (st2 := [.int a2, .int 3, .ref 20]) jF_92_5 rfl rfl) ?_
    refine Eq.trans (jr_cV (a := 20) (as := [.int 3, .int a2]) (rest := []) (v := some (.int (-1))) (hp2 := jh2) (fr2 := 499) (lo2 := 19978) jF_92_6 (by decide +kernel) rfl (show j_cnd 500 20000 499 19978 3 _ _ = true from rfl) ?_) ?_
    · refine Eq.trans (jr_s (pc2 := 1) (lv2 := [(0, .ref 20), (1, .int 3), (2, .int a2)]) (st2 := [.int 3]) jF_93_0 rfl rfl) ?_
      refine Eq.trans (jr_if0 jF_93_1 (by decide +kernel)) ?_
      refine Eq.trans (jr_s (pc2 := 5) (lv2 := [(0, .ref 20), (1, .int 3), (2, .int a2)]) (st2 := [.int 3]) jF_93_4 rfl rfl) ?_
      refine Eq.trans (jr_s (pc2 := 6) (lv2 := [(0, .ref 20), (1, .int 3), (2, .int a2)]) (st2 := [.ref 20, .int 3]) jF_93_5 rfl rfl) ?_
      refine Eq.trans (jr_gf (v := .ref 21) jF_93_6 (by decide +kernel)) ?_
      refine Eq.trans (jr_al (v := 25) jF_93_9 (by decide +kernel)) ?_
      refine Eq.trans (jr_ic0 jF_93_10 (by decide +kernel)) ?_
      refine Eq.trans (jr_s (pc2 := 14) (lv2 := [(0, .ref 20), (1, .int 3), (2, .int a2)]) (st2 := [.int a2]) jF_93_13 rfl rfl) ?_
      refine Eq.trans (jr_if0 jF_93_14 (jk_lt_ge (show (0 : Int32).toInt ≤ (a2 : Int32).toInt by rw [show (0 : Int32).toInt = 0 from by decide]; omega))) ?_
      refine Eq.trans (jr_s (pc2 := 18) (lv2 := [(0, .ref 20), (1, .int 3), (2, .int a2)]) (st2 := [.int a2]) jF_93_17 rfl rfl) ?_
      refine Eq.trans (jr_s (pc2 := 20) (lv2 := [(0, .ref 20), (1, .int 3), (2, .int a2)]) (st2 := [.int 6, .int a2]) jF_93_18 rfl rfl) ?_
      refine Eq.trans (jr_ic1 jF_93_20 (jk_ge_ge (show (6 : Int32).toInt ≤ (a2 : Int32).toInt by rw [show (6 : Int32).toInt = 6 from by decide]; omega))) ?_
      refine Eq.trans (jr_s (pc2 := 33) (lv2 := [(0, .ref 20), (1, .int 3), (2, .int a2)]) (st2 := [.int (-1)]) jF_93_32 rfl rfl) ?_
      exact jr_ri jF_93_33 rfl
    exact jr_ri jF_92_9 rfl
  · refine Eq.trans (jr_s (pc2 := 1) (lv2 := [(0, .ref 117), (1, .int 3), (2, .int a2)]) (st2 := [.ref 117]) jF_266_0 rfl rfl) ?_
    refine Eq.trans (jr_s (pc2 := 2) (lv2 := [(0, .ref 117), (1, .int 3), (2, .int a2)]) (st2 := [.int 3, .ref 117]) jF_266_1 rfl rfl) ?_
    refine Eq.trans (jr_cV (a := 117) (as := [.int 3]) (rest := []) (v := some (.long 0)) (hp2 := jh2) (fr2 := 499) (lo2 := 19979) jF_266_2 (by decide +kernel) rfl (show j_cnd 500 20000 499 19979 2 _ _ = true from rfl) ?_) ?_
    · refine Eq.trans (jr_s (pc2 := 1) (lv2 := [(0, .ref 117), (1, .int 3)]) (st2 := [.int 3]) jF_267_0 rfl rfl) ?_
      refine Eq.trans (jr_s (pc2 := 2) (lv2 := [(0, .ref 117), (1, .int 3)]) (st2 := [.long 3]) jF_267_1 rfl rfl) ?_
      refine Eq.trans (jr_s (pc2 := 3) (lv2 := [(0, .ref 117), (1, .int 3)]) (st2 := [.long 0, .long 3]) jF_267_2 rfl rfl) ?_
      refine Eq.trans (jr_s (pc2 := 6) (lv2 := [(0, .ref 117), (1, .int 3)]) (st2 := [.long 17, .long 0, .long 3]) jF_267_3 rfl rfl) ?_
      refine Eq.trans (jr_cS (as := [.long 3, .long 0, .long 17]) (rest := []) (v := some (.int 1)) (hp2 := jh2) (fr2 := 498) (lo2 := 19954) jF_267_6 rfl (show j_cnd 499 19979 498 19954 6 _ _ = true from rfl) ?_) ?_
      · refine Eq.trans (jr_s (pc2 := 1) (lv2 := [(0, .long 3), (2, .long 0), (4, .long 17)]) (st2 := [.long 3]) jF_232_0 rfl rfl) ?_
        refine Eq.trans (jr_s (pc2 := 2) (lv2 := [(0, .long 3), (2, .long 0), (4, .long 17)]) (st2 := [.long 0, .long 3]) jF_232_1 rfl rfl) ?_
        refine Eq.trans (jr_s (pc2 := 3) (lv2 := [(0, .long 3), (2, .long 0), (4, .long 17)]) (st2 := [.int 1]) jF_232_2 rfl rfl) ?_
        refine Eq.trans (jr_if0 jF_232_3 (by decide +kernel)) ?_
        refine Eq.trans (jr_s (pc2 := 7) (lv2 := [(0, .long 3), (2, .long 0), (4, .long 17)]) (st2 := [.long 3]) jF_232_6 rfl rfl) ?_
        refine Eq.trans (jr_s (pc2 := 9) (lv2 := [(0, .long 3), (2, .long 0), (4, .long 17)]) (st2 := [.long 17, .long 3]) jF_232_7 rfl rfl) ?_
        refine Eq.trans (jr_s (pc2 := 10) (lv2 := [(0, .long 3), (2, .long 0), (4, .long 17)]) (st2 := [.int (-1)]) jF_232_9 rfl rfl) ?_
        refine Eq.trans (jr_if0 jF_232_10 (by decide +kernel)) ?_
        refine Eq.trans (jr_s (pc2 := 14) (lv2 := [(0, .long 3), (2, .long 0), (4, .long 17)]) (st2 := [.int 1]) jF_232_13 rfl rfl) ?_
        refine Eq.trans (jr_s (pc2 := 18) (lv2 := [(0, .long 3), (2, .long 0), (4, .long 17)]) (st2 := [.int 1]) jF_232_14 rfl rfl) ?_
        exact jr_ri jF_232_18 rfl
      refine Eq.trans (jr_if0 jF_267_9 (by decide +kernel)) ?_
      refine Eq.trans (jr_s (pc2 := 13) (lv2 := [(0, .ref 117), (1, .int 3)]) (st2 := [.ref 117]) jF_267_12 rfl rfl) ?_
      refine Eq.trans (jr_gf (v := .ref 138) jF_267_13 (by decide +kernel)) ?_
      refine Eq.trans (jr_s (pc2 := 18) (lv2 := [(0, .ref 117), (1, .int 3)]) (st2 := [.int 18, .ref 138]) jF_267_16 rfl rfl) ?_
      refine Eq.trans (jr_s (pc2 := 19) (lv2 := [(0, .ref 117), (1, .int 3)]) (st2 := [.int 3, .int 18, .ref 138]) jF_267_18 rfl rfl) ?_
      refine Eq.trans (jr_s (pc2 := 20) (lv2 := [(0, .ref 117), (1, .int 3)]) (st2 := [.int 21, .ref 138]) jF_267_19 rfl rfl) ?_
      refine Eq.trans (jr_ldl (v := .long 0) jF_267_20 (by decide +kernel)) ?_
      exact jr_rl jF_267_21
    refine Eq.trans (jr_s (pc2 := 6) (lv2 := [(3, .long 0), (0, .ref 117), (1, .int 3), (2, .int a2)]) (st2 := []) jF_266_5 rfl rfl) ?_
    refine Eq.trans (jr_s (pc2 := 7) (lv2 := [(3, .long 0), (0, .ref 117), (1, .int 3), (2, .int a2)]) (st2 := [.long 0]) jF_266_6 rfl rfl) ?_
    refine Eq.trans (jr_s (pc2 := 8) (lv2 := [(3, .long 0), (0, .ref 117), (1, .int 3), (2, .int a2)]) (st2 := [.long 0, .long 0]) jF_266_7 rfl rfl) ?_
    refine Eq.trans (jr_s (pc2 := 9) (lv2 := [(3, .long 0), (0, .ref 117), (1, .int 3), (2, .int a2)]) (st2 := [.int 0]) jF_266_8 rfl rfl) ?_
    refine Eq.trans (jr_if1 jF_266_9 (by decide +kernel)) ?_
    refine Eq.trans (jr_s (pc2 := 25) (lv2 := [(3, .long 0), (0, .ref 117), (1, .int 3), (2, .int a2)]) (st2 := [.int (-1)]) jF_266_24 rfl rfl) ?_
    exact jr_ri jF_266_25 rfl
set_option maxHeartbeats 8000000 in
set_option maxRecDepth 100000 in
theorem pm_letter_L75 (a2 : Int32) (hl_a2 : 6 ≤ a2.toInt) (hh_a2 : a2.toInt ≤ 2147483647) : PM 92 266 [.int 4, .int a2] := by
  refine ⟨60000, 60000, (-1), jh2, jh2, ?_, ?_, by decide +kernel⟩
  · refine Eq.trans (jr_s (pc2 := 1) (lv2 := [(0, .ref 9), (1, .int 4), (2, .int a2)]) (st2 := [.ref 9]) jF_92_0 rfl rfl) ?_
    refine Eq.trans (jr_gf (v := .ref 20) jF_92_1 (by decide +kernel)) ?_
    refine Eq.trans (jr_s (pc2 := 5) (lv2 := [(0, .ref 9), (1, .int 4), (2, .int a2)]) (st2 := [.int 4, .ref 20]) jF_92_4 rfl rfl) ?_
    refine Eq.trans (jr_s (pc2 := 6) (lv2 := [(0, .ref 9), (1, .int 4), (2, .int a2)]) (st2 := [.int a2, .int 4, .ref 20]) jF_92_5 rfl rfl) ?_
    refine Eq.trans (jr_cV (a := 20) (as := [.int 4, .int a2]) (rest := []) (v := some (.int (-1))) (hp2 := jh2) (fr2 := 499) (lo2 := 19978) jF_92_6 (by decide +kernel) rfl (show j_cnd 500 20000 499 19978 3 _ _ = true from rfl) ?_) ?_
    · refine Eq.trans (jr_s (pc2 := 1) (lv2 := [(0, .ref 20), (1, .int 4), (2, .int a2)]) (st2 := [.int 4]) jF_93_0 rfl rfl) ?_
      refine Eq.trans (jr_if0 jF_93_1 (by decide +kernel)) ?_
      refine Eq.trans (jr_s (pc2 := 5) (lv2 := [(0, .ref 20), (1, .int 4), (2, .int a2)]) (st2 := [.int 4]) jF_93_4 rfl rfl) ?_
      refine Eq.trans (jr_s (pc2 := 6) (lv2 := [(0, .ref 20), (1, .int 4), (2, .int a2)]) (st2 := [.ref 20, .int 4]) jF_93_5 rfl rfl) ?_
      refine Eq.trans (jr_gf (v := .ref 21) jF_93_6 (by decide +kernel)) ?_
      refine Eq.trans (jr_al (v := 25) jF_93_9 (by decide +kernel)) ?_
      refine Eq.trans (jr_ic0 jF_93_10 (by decide +kernel)) ?_
      refine Eq.trans (jr_s (pc2 := 14) (lv2 := [(0, .ref 20), (1, .int 4), (2, .int a2)]) (st2 := [.int a2]) jF_93_13 rfl rfl) ?_
      refine Eq.trans (jr_if0 jF_93_14 (jk_lt_ge (show (0 : Int32).toInt ≤ (a2 : Int32).toInt by rw [show (0 : Int32).toInt = 0 from by decide]; omega))) ?_
      refine Eq.trans (jr_s (pc2 := 18) (lv2 := [(0, .ref 20), (1, .int 4), (2, .int a2)]) (st2 := [.int a2]) jF_93_17 rfl rfl) ?_
      refine Eq.trans (jr_s (pc2 := 20) (lv2 := [(0, .ref 20), (1, .int 4), (2, .int a2)]) (st2 := [.int 6, .int a2]) jF_93_18 rfl rfl) ?_
      refine Eq.trans (jr_ic1 jF_93_20 (jk_ge_ge (show (6 : Int32).toInt ≤ (a2 : Int32).toInt by rw [show (6 : Int32).toInt = 6 from by decide]; omega))) ?_
      refine Eq.trans (jr_s (pc2 := 33) (lv2 := [(0, .ref 20), (1, .int 4), (2, .int a2)]) (st2 := [.int (-1)]) jF_93_32 rfl rfl) ?_
      exact jr_ri jF_93_33 rfl
    exact jr_ri jF_92_9 rfl
  · refine Eq.trans (jr_s (pc2 := 1) (lv2 := [(0, .ref 117), (1, .int 4), (2, .int a2)]) (st2 := [.ref 117]) jF_266_0 rfl rfl) ?_
    refine Eq.trans (jr_s (pc2 := 2) (lv2 := [(0, .ref 117), (1, .int 4), (2, .int a2)]) (st2 := [.int 4, .ref 117]) jF_266_1 rfl rfl) ?_
    refine Eq.trans (jr_cV (a := 117) (as := [.int 4]) (rest := []) (v := some (.long 0)) (hp2 := jh2) (fr2 := 499) (lo2 := 19979) jF_266_2 (by decide +kernel) rfl (show j_cnd 500 20000 499 19979 2 _ _ = true from rfl) ?_) ?_
    · refine Eq.trans (jr_s (pc2 := 1) (lv2 := [(0, .ref 117), (1, .int 4)]) (st2 := [.int 4]) jF_267_0 rfl rfl) ?_
      refine Eq.trans (jr_s (pc2 := 2) (lv2 := [(0, .ref 117), (1, .int 4)]) (st2 := [.long 4]) jF_267_1 rfl rfl) ?_
      refine Eq.trans (jr_s (pc2 := 3) (lv2 := [(0, .ref 117), (1, .int 4)]) (st2 := [.long 0, .long 4]) jF_267_2 rfl rfl) ?_
      refine Eq.trans (jr_s (pc2 := 6) (lv2 := [(0, .ref 117), (1, .int 4)]) (st2 := [.long 17, .long 0, .long 4]) jF_267_3 rfl rfl) ?_
      refine Eq.trans (jr_cS (as := [.long 4, .long 0, .long 17]) (rest := []) (v := some (.int 1)) (hp2 := jh2) (fr2 := 498) (lo2 := 19954) jF_267_6 rfl (show j_cnd 499 19979 498 19954 6 _ _ = true from rfl) ?_) ?_
      · refine Eq.trans (jr_s (pc2 := 1) (lv2 := [(0, .long 4), (2, .long 0), (4, .long 17)]) (st2 := [.long 4]) jF_232_0 rfl rfl) ?_
        refine Eq.trans (jr_s (pc2 := 2) (lv2 := [(0, .long 4), (2, .long 0), (4, .long 17)]) (st2 := [.long 0, .long 4]) jF_232_1 rfl rfl) ?_
        refine Eq.trans (jr_s (pc2 := 3) (lv2 := [(0, .long 4), (2, .long 0), (4, .long 17)]) (st2 := [.int 1]) jF_232_2 rfl rfl) ?_
        refine Eq.trans (jr_if0 jF_232_3 (by decide +kernel)) ?_
        refine Eq.trans (jr_s (pc2 := 7) (lv2 := [(0, .long 4), (2, .long 0), (4, .long 17)]) (st2 := [.long 4]) jF_232_6 rfl rfl) ?_
        refine Eq.trans (jr_s (pc2 := 9) (lv2 := [(0, .long 4), (2, .long 0), (4, .long 17)]) (st2 := [.long 17, .long 4]) jF_232_7 rfl rfl) ?_
        refine Eq.trans (jr_s (pc2 := 10) (lv2 := [(0, .long 4), (2, .long 0), (4, .long 17)]) (st2 := [.int (-1)]) jF_232_9 rfl rfl) ?_
        refine Eq.trans (jr_if0 jF_232_10 (by decide +kernel)) ?_
        refine Eq.trans (jr_s (pc2 := 14) (lv2 := [(0, .long 4), (2, .long 0), (4, .long 17)]) (st2 := [.int 1]) jF_232_13 rfl rfl) ?_
        refine Eq.trans (jr_s (pc2 := 18) (lv2 := [(0, .long 4), (2, .long 0), (4, .long 17)]) (st2 := [.int 1]) jF_232_14 rfl rfl) ?_
        exact jr_ri jF_232_18 rfl
      refine Eq.trans (jr_if0 jF_267_9 (by decide +kernel)) ?_
      refine Eq.trans (jr_s (pc2 := 13) (lv2 := [(0, .ref 117), (1, .int 4)]) (st2 := [.ref 117]) jF_267_12 rfl rfl) ?_
      refine Eq.trans (jr_gf (v := .ref 138) jF_267_13 (by decide +kernel)) ?_
      refine Eq.trans (jr_s (pc2 := 18) (lv2 := [(0, .ref 117), (1, .int 4)]) (st2 := [.int 18, .ref 138]) jF_267_16 rfl rfl) ?_
      refine Eq.trans (jr_s (pc2 := 19) (lv2 := [(0, .ref 117), (1, .int 4)]) (st2 := [.int 4, .int 18, .ref 138]) jF_267_18 rfl rfl) ?_
      refine Eq.trans (jr_s (pc2 := 20) (lv2 := [(0, .ref 117), (1, .int 4)]) (st2 := [.int 22, .ref 138]) jF_267_19 rfl rfl) ?_
      refine Eq.trans (jr_ldl (v := .long 0) jF_267_20 (by decide +kernel)) ?_
      exact jr_rl jF_267_21
    refine Eq.trans (jr_s (pc2 := 6) (lv2 := [(3, .long 0), (0, .ref 117), (1, .int 4), (2, .int a2)]) (st2 := []) jF_266_5 rfl rfl) ?_
    refine Eq.trans (jr_s (pc2 := 7) (lv2 := [(3, .long 0), (0, .ref 117), (1, .int 4), (2, .int a2)]) (st2 := [.long 0]) jF_266_6 rfl rfl) ?_
    refine Eq.trans (jr_s (pc2 := 8) (lv2 := [(3, .long 0), (0, .ref 117), (1, .int 4), (2, .int a2)]) (st2 := [.long 0, .long 0]) jF_266_7 rfl rfl) ?_
    refine Eq.trans (jr_s (pc2 := 9) (lv2 := [(3, .long 0), (0, .ref 117), (1, .int 4), (2, .int a2)]) (st2 := [.int 0]) jF_266_8 rfl rfl) ?_
    refine Eq.trans (jr_if1 jF_266_9 (by decide +kernel)) ?_
    refine Eq.trans (jr_s (pc2 := 25) (lv2 := [(3, .long 0), (0, .ref 117), (1, .int 4), (2, .int a2)]) (st2 := [.int (-1)]) jF_266_24 rfl rfl) ?_
    exact jr_ri jF_266_25 rfl
set_option maxHeartbeats 8000000 in
set_option maxRecDepth 100000 in
theorem pm_letter_L76 (a2 : Int32) (hl_a2 : 6 ≤ a2.toInt) (hh_a2 : a2.toInt ≤ 2147483647) : PM 92 266 [.int 5, .int a2] := by
  refine ⟨60000, 60000, (-1), jh2, jh2, ?_, ?_, by decide +kernel⟩
  · refine Eq.trans (jr_s (pc2 := 1) (lv2 := [(0, .ref 9), (1, .int 5), (2, .int a2)]) (st2 := [.ref 9]) jF_92_0 rfl rfl) ?_
    refine Eq.trans (jr_gf (v := .ref 20) jF_92_1 (by decide +kernel)) ?_
    refine Eq.trans (jr_s (pc2 := 5) (lv2 := [(0, .ref 9), (1, .int 5), (2, .int a2)]) (st2 := [.int 5, .ref 20]) jF_92_4 rfl rfl) ?_
    refine Eq.trans (jr_s (pc2 := 6) (lv2 := [(0, .ref 9), (1, .int 5), (2, .int a2)]) (st2 := [.int a2, .int 5, .ref 20]) jF_92_5 rfl rfl) ?_
    refine Eq.trans (jr_cV (a := 20) (as := [.int 5, .int a2]) (rest := []) (v := some (.int (-1))) (hp2 := jh2) (fr2 := 499) (lo2 := 19978) jF_92_6 (by decide +kernel) rfl (show j_cnd 500 20000 499 19978 3 _ _ = true from rfl) ?_) ?_
    · refine Eq.trans (jr_s (pc2 := 1) (lv2 := [(0, .ref 20), (1, .int 5), (2, .int a2)]) (st2 := [.int 5]) jF_93_0 rfl rfl) ?_
      refine Eq.trans (jr_if0 jF_93_1 (by decide +kernel)) ?_
      refine Eq.trans (jr_s (pc2 := 5) (lv2 := [(0, .ref 20), (1, .int 5), (2, .int a2)]) (st2 := [.int 5]) jF_93_4 rfl rfl) ?_
      refine Eq.trans (jr_s (pc2 := 6) (lv2 := [(0, .ref 20), (1, .int 5), (2, .int a2)]) (st2 := [.ref 20, .int 5]) jF_93_5 rfl rfl) ?_
      refine Eq.trans (jr_gf (v := .ref 21) jF_93_6 (by decide +kernel)) ?_
      refine Eq.trans (jr_al (v := 25) jF_93_9 (by decide +kernel)) ?_
      refine Eq.trans (jr_ic0 jF_93_10 (by decide +kernel)) ?_
      refine Eq.trans (jr_s (pc2 := 14) (lv2 := [(0, .ref 20), (1, .int 5), (2, .int a2)]) (st2 := [.int a2]) jF_93_13 rfl rfl) ?_
      refine Eq.trans (jr_if0 jF_93_14 (jk_lt_ge (show (0 : Int32).toInt ≤ (a2 : Int32).toInt by rw [show (0 : Int32).toInt = 0 from by decide]; omega))) ?_
      refine Eq.trans (jr_s (pc2 := 18) (lv2 := [(0, .ref 20), (1, .int 5), (2, .int a2)]) (st2 := [.int a2]) jF_93_17 rfl rfl) ?_
      refine Eq.trans (jr_s (pc2 := 20) (lv2 := [(0, .ref 20), (1, .int 5), (2, .int a2)]) (st2 := [.int 6, .int a2]) jF_93_18 rfl rfl) ?_
      refine Eq.trans (jr_ic1 jF_93_20 (jk_ge_ge (show (6 : Int32).toInt ≤ (a2 : Int32).toInt by rw [show (6 : Int32).toInt = 6 from by decide]; omega))) ?_
      refine Eq.trans (jr_s (pc2 := 33) (lv2 := [(0, .ref 20), (1, .int 5), (2, .int a2)]) (st2 := [.int (-1)]) jF_93_32 rfl rfl) ?_
      exact jr_ri jF_93_33 rfl
    exact jr_ri jF_92_9 rfl
  · refine Eq.trans (jr_s (pc2 := 1) (lv2 := [(0, .ref 117), (1, .int 5), (2, .int a2)]) (st2 := [.ref 117]) jF_266_0 rfl rfl) ?_
    refine Eq.trans (jr_s (pc2 := 2) (lv2 := [(0, .ref 117), (1, .int 5), (2, .int a2)]) (st2 := [.int 5, .ref 117]) jF_266_1 rfl rfl) ?_
    refine Eq.trans (jr_cV (a := 117) (as := [.int 5]) (rest := []) (v := some (.long 0)) (hp2 := jh2) (fr2 := 499) (lo2 := 19979) jF_266_2 (by decide +kernel) rfl (show j_cnd 500 20000 499 19979 2 _ _ = true from rfl) ?_) ?_
    · refine Eq.trans (jr_s (pc2 := 1) (lv2 := [(0, .ref 117), (1, .int 5)]) (st2 := [.int 5]) jF_267_0 rfl rfl) ?_
      refine Eq.trans (jr_s (pc2 := 2) (lv2 := [(0, .ref 117), (1, .int 5)]) (st2 := [.long 5]) jF_267_1 rfl rfl) ?_
      refine Eq.trans (jr_s (pc2 := 3) (lv2 := [(0, .ref 117), (1, .int 5)]) (st2 := [.long 0, .long 5]) jF_267_2 rfl rfl) ?_
      refine Eq.trans (jr_s (pc2 := 6) (lv2 := [(0, .ref 117), (1, .int 5)]) (st2 := [.long 17, .long 0, .long 5]) jF_267_3 rfl rfl) ?_
      refine Eq.trans (jr_cS (as := [.long 5, .long 0, .long 17]) (rest := []) (v := some (.int 1)) (hp2 := jh2) (fr2 := 498) (lo2 := 19954) jF_267_6 rfl (show j_cnd 499 19979 498 19954 6 _ _ = true from rfl) ?_) ?_
      · refine Eq.trans (jr_s (pc2 := 1) (lv2 := [(0, .long 5), (2, .long 0), (4, .long 17)]) (st2 := [.long 5]) jF_232_0 rfl rfl) ?_
        refine Eq.trans (jr_s (pc2 := 2) (lv2 := [(0, .long 5), (2, .long 0), (4, .long 17)]) (st2 := [.long 0, .long 5]) jF_232_1 rfl rfl) ?_
        refine Eq.trans (jr_s (pc2 := 3) (lv2 := [(0, .long 5), (2, .long 0), (4, .long 17)]) (st2 := [.int 1]) jF_232_2 rfl rfl) ?_
        refine Eq.trans (jr_if0 jF_232_3 (by decide +kernel)) ?_
        refine Eq.trans (jr_s (pc2 := 7) (lv2 := [(0, .long 5), (2, .long 0), (4, .long 17)]) (st2 := [.long 5]) jF_232_6 rfl rfl) ?_
        refine Eq.trans (jr_s (pc2 := 9) (lv2 := [(0, .long 5), (2, .long 0), (4, .long 17)]) (st2 := [.long 17, .long 5]) jF_232_7 rfl rfl) ?_
        refine Eq.trans (jr_s (pc2 := 10) (lv2 := [(0, .long 5), (2, .long 0), (4, .long 17)]) (st2 := [.int (-1)]) jF_232_9 rfl rfl) ?_
        refine Eq.trans (jr_if0 jF_232_10 (by decide +kernel)) ?_
        refine Eq.trans (jr_s (pc2 := 14) (lv2 := [(0, .long 5), (2, .long 0), (4, .long 17)]) (st2 := [.int 1]) jF_232_13 rfl rfl) ?_
        refine Eq.trans (jr_s (pc2 := 18) (lv2 := [(0, .long 5), (2, .long 0), (4, .long 17)]) (st2 := [.int 1]) jF_232_14 rfl rfl) ?_
        exact jr_ri jF_232_18 rfl
      refine Eq.trans (jr_if0 jF_267_9 (by decide +kernel)) ?_
      refine Eq.trans (jr_s (pc2 := 13) (lv2 := [(0, .ref 117), (1, .int 5)]) (st2 := [.ref 117]) jF_267_12 rfl rfl) ?_
      refine Eq.trans (jr_gf (v := .ref 138) jF_267_13 (by decide +kernel)) ?_
      refine Eq.trans (jr_s (pc2 := 18) (lv2 := [(0, .ref 117), (1, .int 5)]) (st2 := [.int 18, .ref 138]) jF_267_16 rfl rfl) ?_
      refine Eq.trans (jr_s (pc2 := 19) (lv2 := [(0, .ref 117), (1, .int 5)]) (st2 := [.int 5, .int 18, .ref 138]) jF_267_18 rfl rfl) ?_
      refine Eq.trans (jr_s (pc2 := 20) (lv2 := [(0, .ref 117), (1, .int 5)]) (st2 := [.int 23, .ref 138]) jF_267_19 rfl rfl) ?_
      refine Eq.trans (jr_ldl (v := .long 0) jF_267_20 (by decide +kernel)) ?_
      exact jr_rl jF_267_21
    refine Eq.trans (jr_s (pc2 := 6) (lv2 := [(3, .long 0), (0, .ref 117), (1, .int 5), (2, .int a2)]) (st2 := []) jF_266_5 rfl rfl) ?_
    refine Eq.trans (jr_s (pc2 := 7) (lv2 := [(3, .long 0), (0, .ref 117), (1, .int 5), (2, .int a2)]) (st2 := [.long 0]) jF_266_6 rfl rfl) ?_
    refine Eq.trans (jr_s (pc2 := 8) (lv2 := [(3, .long 0), (0, .ref 117), (1, .int 5), (2, .int a2)]) (st2 := [.long 0, .long 0]) jF_266_7 rfl rfl) ?_
    refine Eq.trans (jr_s (pc2 := 9) (lv2 := [(3, .long 0), (0, .ref 117), (1, .int 5), (2, .int a2)]) (st2 := [.int 0]) jF_266_8 rfl rfl) ?_
    refine Eq.trans (jr_if1 jF_266_9 (by decide +kernel)) ?_
    refine Eq.trans (jr_s (pc2 := 25) (lv2 := [(3, .long 0), (0, .ref 117), (1, .int 5), (2, .int a2)]) (st2 := [.int (-1)]) jF_266_24 rfl rfl) ?_
    exact jr_ri jF_266_25 rfl
set_option maxHeartbeats 8000000 in
set_option maxRecDepth 100000 in
theorem pm_letter_L77 (a2 : Int32) (hl_a2 : 6 ≤ a2.toInt) (hh_a2 : a2.toInt ≤ 2147483647) : PM 92 266 [.int 6, .int a2] := by
  refine ⟨60000, 60000, (-1), jh2, jh2, ?_, ?_, by decide +kernel⟩
  · refine Eq.trans (jr_s (pc2 := 1) (lv2 := [(0, .ref 9), (1, .int 6), (2, .int a2)]) (st2 := [.ref 9]) jF_92_0 rfl rfl) ?_
    refine Eq.trans (jr_gf (v := .ref 20) jF_92_1 (by decide +kernel)) ?_
    refine Eq.trans (jr_s (pc2 := 5) (lv2 := [(0, .ref 9), (1, .int 6), (2, .int a2)]) (st2 := [.int 6, .ref 20]) jF_92_4 rfl rfl) ?_
    refine Eq.trans (jr_s (pc2 := 6) (lv2 := [(0, .ref 9), (1, .int 6), (2, .int a2)]) (st2 := [.int a2, .int 6, .ref 20]) jF_92_5 rfl rfl) ?_
    refine Eq.trans (jr_cV (a := 20) (as := [.int 6, .int a2]) (rest := []) (v := some (.int (-1))) (hp2 := jh2) (fr2 := 499) (lo2 := 19978) jF_92_6 (by decide +kernel) rfl (show j_cnd 500 20000 499 19978 3 _ _ = true from rfl) ?_) ?_
    · refine Eq.trans (jr_s (pc2 := 1) (lv2 := [(0, .ref 20), (1, .int 6), (2, .int a2)]) (st2 := [.int 6]) jF_93_0 rfl rfl) ?_
      refine Eq.trans (jr_if0 jF_93_1 (by decide +kernel)) ?_
      refine Eq.trans (jr_s (pc2 := 5) (lv2 := [(0, .ref 20), (1, .int 6), (2, .int a2)]) (st2 := [.int 6]) jF_93_4 rfl rfl) ?_
      refine Eq.trans (jr_s (pc2 := 6) (lv2 := [(0, .ref 20), (1, .int 6), (2, .int a2)]) (st2 := [.ref 20, .int 6]) jF_93_5 rfl rfl) ?_
      refine Eq.trans (jr_gf (v := .ref 21) jF_93_6 (by decide +kernel)) ?_
      refine Eq.trans (jr_al (v := 25) jF_93_9 (by decide +kernel)) ?_
      refine Eq.trans (jr_ic0 jF_93_10 (by decide +kernel)) ?_
      refine Eq.trans (jr_s (pc2 := 14) (lv2 := [(0, .ref 20), (1, .int 6), (2, .int a2)]) (st2 := [.int a2]) jF_93_13 rfl rfl) ?_
      refine Eq.trans (jr_if0 jF_93_14 (jk_lt_ge (show (0 : Int32).toInt ≤ (a2 : Int32).toInt by rw [show (0 : Int32).toInt = 0 from by decide]; omega))) ?_
      refine Eq.trans (jr_s (pc2 := 18) (lv2 := [(0, .ref 20), (1, .int 6), (2, .int a2)]) (st2 := [.int a2]) jF_93_17 rfl rfl) ?_
      refine Eq.trans (jr_s (pc2 := 20) (lv2 := [(0, .ref 20), (1, .int 6), (2, .int a2)]) (st2 := [.int 6, .int a2]) jF_93_18 rfl rfl) ?_
      refine Eq.trans (jr_ic1 jF_93_20 (jk_ge_ge (show (6 : Int32).toInt ≤ (a2 : Int32).toInt by rw [show (6 : Int32).toInt = 6 from by decide]; omega))) ?_
      refine Eq.trans (jr_s (pc2 := 33) (lv2 := [(0, .ref 20), (1, .int 6), (2, .int a2)]) (st2 := [.int (-1)]) jF_93_32 rfl rfl) ?_
      exact jr_ri jF_93_33 rfl
    exact jr_ri jF_92_9 rfl
  · refine Eq.trans (jr_s (pc2 := 1) (lv2 := [(0, .ref 117), (1, .int 6), (2, .int a2)]) (st2 := [.ref 117]) jF_266_0 rfl rfl) ?_
    refine Eq.trans (jr_s (pc2 := 2) (lv2 := [(0, .ref 117), (1, .int 6), (2, .int a2)]) (st2 := [.int 6, .ref 117]) jF_266_1 rfl rfl) ?_
    refine Eq.trans (jr_cV (a := 117) (as := [.int 6]) (rest := []) (v := some (.long 0)) (hp2 := jh2) (fr2 := 499) (lo2 := 19979) jF_266_2 (by decide +kernel) rfl (show j_cnd 500 20000 499 19979 2 _ _ = true from rfl) ?_) ?_
    · refine Eq.trans (jr_s (pc2 := 1) (lv2 := [(0, .ref 117), (1, .int 6)]) (st2 := [.int 6]) jF_267_0 rfl rfl) ?_
      refine Eq.trans (jr_s (pc2 := 2) (lv2 := [(0, .ref 117), (1, .int 6)]) (st2 := [.long 6]) jF_267_1 rfl rfl) ?_
      refine Eq.trans (jr_s (pc2 := 3) (lv2 := [(0, .ref 117), (1, .int 6)]) (st2 := [.long 0, .long 6]) jF_267_2 rfl rfl) ?_
      refine Eq.trans (jr_s (pc2 := 6) (lv2 := [(0, .ref 117), (1, .int 6)]) (st2 := [.long 17, .long 0, .long 6]) jF_267_3 rfl rfl) ?_
      refine Eq.trans (jr_cS (as := [.long 6, .long 0, .long 17]) (rest := []) (v := some (.int 1)) (hp2 := jh2) (fr2 := 498) (lo2 := 19954) jF_267_6 rfl (show j_cnd 499 19979 498 19954 6 _ _ = true from rfl) ?_) ?_
      · refine Eq.trans (jr_s (pc2 := 1) (lv2 := [(0, .long 6), (2, .long 0), (4, .long 17)]) (st2 := [.long 6]) jF_232_0 rfl rfl) ?_
        refine Eq.trans (jr_s (pc2 := 2) (lv2 := [(0, .long 6), (2, .long 0), (4, .long 17)]) (st2 := [.long 0, .long 6]) jF_232_1 rfl rfl) ?_
        refine Eq.trans (jr_s (pc2 := 3) (lv2 := [(0, .long 6), (2, .long 0), (4, .long 17)]) (st2 := [.int 1]) jF_232_2 rfl rfl) ?_
        refine Eq.trans (jr_if0 jF_232_3 (by decide +kernel)) ?_
        refine Eq.trans (jr_s (pc2 := 7) (lv2 := [(0, .long 6), (2, .long 0), (4, .long 17)]) (st2 := [.long 6]) jF_232_6 rfl rfl) ?_
        refine Eq.trans (jr_s (pc2 := 9) (lv2 := [(0, .long 6), (2, .long 0), (4, .long 17)]) (st2 := [.long 17, .long 6]) jF_232_7 rfl rfl) ?_
        refine Eq.trans (jr_s (pc2 := 10) (lv2 := [(0, .long 6), (2, .long 0), (4, .long 17)]) (st2 := [.int (-1)]) jF_232_9 rfl rfl) ?_
        refine Eq.trans (jr_if0 jF_232_10 (by decide +kernel)) ?_
        refine Eq.trans (jr_s (pc2 := 14) (lv2 := [(0, .long 6), (2, .long 0), (4, .long 17)]) (st2 := [.int 1]) jF_232_13 rfl rfl) ?_
        refine Eq.trans (jr_s (pc2 := 18) (lv2 := [(0, .long 6), (2, .long 0), (4, .long 17)]) (st2 := [.int 1]) jF_232_14 rfl rfl) ?_
        exact jr_ri jF_232_18 rfl
      refine Eq.trans (jr_if0 jF_267_9 (by decide +kernel)) ?_
      refine Eq.trans (jr_s (pc2 := 13) (lv2 := [(0, .ref 117), (1, .int 6)]) (st2 := [.ref 117]) jF_267_12 rfl rfl) ?_
      refine Eq.trans (jr_gf (v := .ref 138) jF_267_13 (by decide +kernel)) ?_
      refine Eq.trans (jr_s (pc2 := 18) (lv2 := [(0, .ref 117), (1, .int 6)]) (st2 := [.int 18, .ref 138]) jF_267_16 rfl rfl) ?_
      refine Eq.trans (jr_s (pc2 := 19) (lv2 := [(0, .ref 117), (1, .int 6)]) (st2 := [.int 6, .int 18, .ref 138]) jF_267_18 rfl rfl) ?_
      refine Eq.trans (jr_s (pc2 := 20) (lv2 := [(0, .ref 117), (1, .int 6)]) (st2 := [.int 24, .ref 138]) jF_267_19 rfl rfl) ?_
      refine Eq.trans (jr_ldl (v := .long 0) jF_267_20 (by decide +kernel)) ?_
      exact jr_rl jF_267_21
    refine Eq.trans (jr_s (pc2 := 6) (lv2 := [(3, .long 0), (0, .ref 117), (1, .int 6), (2, .int a2)]) (st2 := []) jF_266_5 rfl rfl) ?_
    refine Eq.trans (jr_s (pc2 := 7) (lv2 := [(3, .long 0), (0, .ref 117), (1, .int 6), (2, .int a2)]) (st2 := [.long 0]) jF_266_6 rfl rfl) ?_
    refine Eq.trans (jr_s (pc2 := 8) (lv2 := [(3, .long 0), (0, .ref 117), (1, .int 6), (2, .int a2)]) (st2 := [.long 0, .long 0]) jF_266_7 rfl rfl) ?_
    refine Eq.trans (jr_s (pc2 := 9) (lv2 := [(3, .long 0), (0, .ref 117), (1, .int 6), (2, .int a2)]) (st2 := [.int 0]) jF_266_8 rfl rfl) ?_
    refine Eq.trans (jr_if1 jF_266_9 (by decide +kernel)) ?_
    refine Eq.trans (jr_s (pc2 := 25) (lv2 := [(3, .long 0), (0, .ref 117), (1, .int 6), (2, .int a2)]) (st2 := [.int (-1)]) jF_266_24 rfl rfl) ?_
    exact jr_ri jF_266_25 rfl
set_option maxHeartbeats 8000000 in
set_option maxRecDepth 100000 in
theorem pm_letter_L78 (a2 : Int32) (hl_a2 : 6 ≤ a2.toInt) (hh_a2 : a2.toInt ≤ 2147483647) : PM 92 266 [.int 7, .int a2] := by
  refine ⟨60000, 60000, (-1), jh2, jh2, ?_, ?_, by decide +kernel⟩
  · refine Eq.trans (jr_s (pc2 := 1) (lv2 := [(0, .ref 9), (1, .int 7), (2, .int a2)]) (st2 := [.ref 9]) jF_92_0 rfl rfl) ?_
    refine Eq.trans (jr_gf (v := .ref 20) jF_92_1 (by decide +kernel)) ?_
    refine Eq.trans (jr_s (pc2 := 5) (lv2 := [(0, .ref 9), (1, .int 7), (2, .int a2)]) (st2 := [.int 7, .ref 20]) jF_92_4 rfl rfl) ?_
    refine Eq.trans (jr_s (pc2 := 6) (lv2 := [(0, .ref 9), (1, .int 7), (2, .int a2)]) (st2 := [.int a2, .int 7, .ref 20]) jF_92_5 rfl rfl) ?_
    refine Eq.trans (jr_cV (a := 20) (as := [.int 7, .int a2]) (rest := []) (v := some (.int (-1))) (hp2 := jh2) (fr2 := 499) (lo2 := 19978) jF_92_6 (by decide +kernel) rfl (show j_cnd 500 20000 499 19978 3 _ _ = true from rfl) ?_) ?_
    · refine Eq.trans (jr_s (pc2 := 1) (lv2 := [(0, .ref 20), (1, .int 7), (2, .int a2)]) (st2 := [.int 7]) jF_93_0 rfl rfl) ?_
      refine Eq.trans (jr_if0 jF_93_1 (by decide +kernel)) ?_
      refine Eq.trans (jr_s (pc2 := 5) (lv2 := [(0, .ref 20), (1, .int 7), (2, .int a2)]) (st2 := [.int 7]) jF_93_4 rfl rfl) ?_
      refine Eq.trans (jr_s (pc2 := 6) (lv2 := [(0, .ref 20), (1, .int 7), (2, .int a2)]) (st2 := [.ref 20, .int 7]) jF_93_5 rfl rfl) ?_
      refine Eq.trans (jr_gf (v := .ref 21) jF_93_6 (by decide +kernel)) ?_
      refine Eq.trans (jr_al (v := 25) jF_93_9 (by decide +kernel)) ?_
      refine Eq.trans (jr_ic0 jF_93_10 (by decide +kernel)) ?_
      refine Eq.trans (jr_s (pc2 := 14) (lv2 := [(0, .ref 20), (1, .int 7), (2, .int a2)]) (st2 := [.int a2]) jF_93_13 rfl rfl) ?_
      refine Eq.trans (jr_if0 jF_93_14 (jk_lt_ge (show (0 : Int32).toInt ≤ (a2 : Int32).toInt by rw [show (0 : Int32).toInt = 0 from by decide]; omega))) ?_
      refine Eq.trans (jr_s (pc2 := 18) (lv2 := [(0, .ref 20), (1, .int 7), (2, .int a2)]) (st2 := [.int a2]) jF_93_17 rfl rfl) ?_
      refine Eq.trans (jr_s (pc2 := 20) (lv2 := [(0, .ref 20), (1, .int 7), (2, .int a2)]) (st2 := [.int 6, .int a2]) jF_93_18 rfl rfl) ?_
      refine Eq.trans (jr_ic1 jF_93_20 (jk_ge_ge (show (6 : Int32).toInt ≤ (a2 : Int32).toInt by rw [show (6 : Int32).toInt = 6 from by decide]; omega))) ?_
      refine Eq.trans (jr_s (pc2 := 33) (lv2 := [(0, .ref 20), (1, .int 7), (2, .int a2)]) (st2 := [.int (-1)]) jF_93_32 rfl rfl) ?_
      exact jr_ri jF_93_33 rfl
    exact jr_ri jF_92_9 rfl
  · refine Eq.trans (jr_s (pc2 := 1) (lv2 := [(0, .ref 117), (1, .int 7), (2, .int a2)]) (st2 := [.ref 117]) jF_266_0 rfl rfl) ?_
    refine Eq.trans (jr_s (pc2 := 2) (lv2 := [(0, .ref 117), (1, .int 7), (2, .int a2)]) (st2 := [.int 7, .ref 117]) jF_266_1 rfl rfl) ?_
    refine Eq.trans (jr_cV (a := 117) (as := [.int 7]) (rest := []) (v := some (.long 0)) (hp2 := jh2) (fr2 := 499) (lo2 := 19979) jF_266_2 (by decide +kernel) rfl (show j_cnd 500 20000 499 19979 2 _ _ = true from rfl) ?_) ?_
    · refine Eq.trans (jr_s (pc2 := 1) (lv2 := [(0, .ref 117), (1, .int 7)]) (st2 := [.int 7]) jF_267_0 rfl rfl) ?_
      refine Eq.trans (jr_s (pc2 := 2) (lv2 := [(0, .ref 117), (1, .int 7)]) (st2 := [.long 7]) jF_267_1 rfl rfl) ?_
      refine Eq.trans (jr_s (pc2 := 3) (lv2 := [(0, .ref 117), (1, .int 7)]) (st2 := [.long 0, .long 7]) jF_267_2 rfl rfl) ?_
      refine Eq.trans (jr_s (pc2 := 6) (lv2 := [(0, .ref 117), (1, .int 7)]) (st2 := [.long 17, .long 0, .long 7]) jF_267_3 rfl rfl) ?_
      refine Eq.trans (jr_cS (as := [.long 7, .long 0, .long 17]) (rest := []) (v := some (.int 1)) (hp2 := jh2) (fr2 := 498) (lo2 := 19954) jF_267_6 rfl (show j_cnd 499 19979 498 19954 6 _ _ = true from rfl) ?_) ?_
      · refine Eq.trans (jr_s (pc2 := 1) (lv2 := [(0, .long 7), (2, .long 0), (4, .long 17)]) (st2 := [.long 7]) jF_232_0 rfl rfl) ?_
        refine Eq.trans (jr_s (pc2 := 2) (lv2 := [(0, .long 7), (2, .long 0), (4, .long 17)]) (st2 := [.long 0, .long 7]) jF_232_1 rfl rfl) ?_
        refine Eq.trans (jr_s (pc2 := 3) (lv2 := [(0, .long 7), (2, .long 0), (4, .long 17)]) (st2 := [.int 1]) jF_232_2 rfl rfl) ?_
        refine Eq.trans (jr_if0 jF_232_3 (by decide +kernel)) ?_
        refine Eq.trans (jr_s (pc2 := 7) (lv2 := [(0, .long 7), (2, .long 0), (4, .long 17)]) (st2 := [.long 7]) jF_232_6 rfl rfl) ?_
        refine Eq.trans (jr_s (pc2 := 9) (lv2 := [(0, .long 7), (2, .long 0), (4, .long 17)]) (st2 := [.long 17, .long 7]) jF_232_7 rfl rfl) ?_
        refine Eq.trans (jr_s (pc2 := 10) (lv2 := [(0, .long 7), (2, .long 0), (4, .long 17)]) (st2 := [.int (-1)]) jF_232_9 rfl rfl) ?_
        refine Eq.trans (jr_if0 jF_232_10 (by decide +kernel)) ?_
        refine Eq.trans (jr_s (pc2 := 14) (lv2 := [(0, .long 7), (2, .long 0), (4, .long 17)]) (st2 := [.int 1]) jF_232_13 rfl rfl) ?_
        refine Eq.trans (jr_s (pc2 := 18) (lv2 := [(0, .long 7), (2, .long 0), (4, .long 17)]) (st2 := [.int 1]) jF_232_14 rfl rfl) ?_
        exact jr_ri jF_232_18 rfl
      refine Eq.trans (jr_if0 jF_267_9 (by decide +kernel)) ?_
      refine Eq.trans (jr_s (pc2 := 13) (lv2 := [(0, .ref 117), (1, .int 7)]) (st2 := [.ref 117]) jF_267_12 rfl rfl) ?_
      refine Eq.trans (jr_gf (v := .ref 138) jF_267_13 (by decide +kernel)) ?_
      refine Eq.trans (jr_s (pc2 := 18) (lv2 := [(0, .ref 117), (1, .int 7)]) (st2 := [.int 18, .ref 138]) jF_267_16 rfl rfl) ?_
      refine Eq.trans (jr_s (pc2 := 19) (lv2 := [(0, .ref 117), (1, .int 7)]) (st2 := [.int 7, .int 18, .ref 138]) jF_267_18 rfl rfl) ?_
      refine Eq.trans (jr_s (pc2 := 20) (lv2 := [(0, .ref 117), (1, .int 7)]) (st2 := [.int 25, .ref 138]) jF_267_19 rfl rfl) ?_
      refine Eq.trans (jr_ldl (v := .long 0) jF_267_20 (by decide +kernel)) ?_
      exact jr_rl jF_267_21
    refine Eq.trans (jr_s (pc2 := 6) (lv2 := [(3, .long 0), (0, .ref 117), (1, .int 7), (2, .int a2)]) (st2 := []) jF_266_5 rfl rfl) ?_
    refine Eq.trans (jr_s (pc2 := 7) (lv2 := [(3, .long 0), (0, .ref 117), (1, .int 7), (2, .int a2)]) (st2 := [.long 0]) jF_266_6 rfl rfl) ?_
    refine Eq.trans (jr_s (pc2 := 8) (lv2 := [(3, .long 0), (0, .ref 117), (1, .int 7), (2, .int a2)]) (st2 := [.long 0, .long 0]) jF_266_7 rfl rfl) ?_
    refine Eq.trans (jr_s (pc2 := 9) (lv2 := [(3, .long 0), (0, .ref 117), (1, .int 7), (2, .int a2)]) (st2 := [.int 0]) jF_266_8 rfl rfl) ?_
    refine Eq.trans (jr_if1 jF_266_9 (by decide +kernel)) ?_
    refine Eq.trans (jr_s (pc2 := 25) (lv2 := [(3, .long 0), (0, .ref 117), (1, .int 7), (2, .int a2)]) (st2 := [.int (-1)]) jF_266_24 rfl rfl) ?_
    exact jr_ri jF_266_25 rfl
set_option maxHeartbeats 8000000 in
set_option maxRecDepth 100000 in
theorem pm_letter_L79 (a2 : Int32) (hl_a2 : 6 ≤ a2.toInt) (hh_a2 : a2.toInt ≤ 2147483647) : PM 92 266 [.int 8, .int a2] := by
  refine ⟨60000, 60000, (-1), jh2, jh2, ?_, ?_, by decide +kernel⟩
  · refine Eq.trans (jr_s (pc2 := 1) (lv2 := [(0, .ref 9), (1, .int 8), (2, .int a2)]) (st2 := [.ref 9]) jF_92_0 rfl rfl) ?_
    refine Eq.trans (jr_gf (v := .ref 20) jF_92_1 (by decide +kernel)) ?_
    refine Eq.trans (jr_s (pc2 := 5) (lv2 := [(0, .ref 9), (1, .int 8), (2, .int a2)]) (st2 := [.int 8, .ref 20]) jF_92_4 rfl rfl) ?_
    refine Eq.trans (jr_s (pc2 := 6) (lv2 := [(0, .ref 9), (1, .int 8), (2, .int a2)]) (st2 := [.int a2, .int 8, .ref 20]) jF_92_5 rfl rfl) ?_
    refine Eq.trans (jr_cV (a := 20) (as := [.int 8, .int a2]) (rest := []) (v := some (.int (-1))) (hp2 := jh2) (fr2 := 499) (lo2 := 19978) jF_92_6 (by decide +kernel) rfl (show j_cnd 500 20000 499 19978 3 _ _ = true from rfl) ?_) ?_
    · refine Eq.trans (jr_s (pc2 := 1) (lv2 := [(0, .ref 20), (1, .int 8), (2, .int a2)]) (st2 := [.int 8]) jF_93_0 rfl rfl) ?_
      refine Eq.trans (jr_if0 jF_93_1 (by decide +kernel)) ?_
      refine Eq.trans (jr_s (pc2 := 5) (lv2 := [(0, .ref 20), (1, .int 8), (2, .int a2)]) (st2 := [.int 8]) jF_93_4 rfl rfl) ?_
      refine Eq.trans (jr_s (pc2 := 6) (lv2 := [(0, .ref 20), (1, .int 8), (2, .int a2)]) (st2 := [.ref 20, .int 8]) jF_93_5 rfl rfl) ?_
      refine Eq.trans (jr_gf (v := .ref 21) jF_93_6 (by decide +kernel)) ?_
      refine Eq.trans (jr_al (v := 25) jF_93_9 (by decide +kernel)) ?_
      refine Eq.trans (jr_ic0 jF_93_10 (by decide +kernel)) ?_
      refine Eq.trans (jr_s (pc2 := 14) (lv2 := [(0, .ref 20), (1, .int 8), (2, .int a2)]) (st2 := [.int a2]) jF_93_13 rfl rfl) ?_
      refine Eq.trans (jr_if0 jF_93_14 (jk_lt_ge (show (0 : Int32).toInt ≤ (a2 : Int32).toInt by rw [show (0 : Int32).toInt = 0 from by decide]; omega))) ?_
      refine Eq.trans (jr_s (pc2 := 18) (lv2 := [(0, .ref 20), (1, .int 8), (2, .int a2)]) (st2 := [.int a2]) jF_93_17 rfl rfl) ?_
      refine Eq.trans (jr_s (pc2 := 20) (lv2 := [(0, .ref 20), (1, .int 8), (2, .int a2)]) (st2 := [.int 6, .int a2]) jF_93_18 rfl rfl) ?_
      refine Eq.trans (jr_ic1 jF_93_20 (jk_ge_ge (show (6 : Int32).toInt ≤ (a2 : Int32).toInt by rw [show (6 : Int32).toInt = 6 from by decide]; omega))) ?_
      refine Eq.trans (jr_s (pc2 := 33) (lv2 := [(0, .ref 20), (1, .int 8), (2, .int a2)]) (st2 := [.int (-1)]) jF_93_32 rfl rfl) ?_
      exact jr_ri jF_93_33 rfl
    exact jr_ri jF_92_9 rfl
  · refine Eq.trans (jr_s (pc2 := 1) (lv2 := [(0, .ref 117), (1, .int 8), (2, .int a2)]) (st2 := [.ref 117]) jF_266_0 rfl rfl) ?_
    refine Eq.trans (jr_s (pc2 := 2) (lv2 := [(0, .ref 117), (1, .int 8), (2, .int a2)]) (st2 := [.int 8, .ref 117]) jF_266_1 rfl rfl) ?_
    refine Eq.trans (jr_cV (a := 117) (as := [.int 8]) (rest := []) (v := some (.long 0)) (hp2 := jh2) (fr2 := 499) (lo2 := 19979) jF_266_2 (by decide +kernel) rfl (show j_cnd 500 20000 499 19979 2 _ _ = true from rfl) ?_) ?_
    · refine Eq.trans (jr_s (pc2 := 1) (lv2 := [(0, .ref 117), (1, .int 8)]) (st2 := [.int 8]) jF_267_0 rfl rfl) ?_
      refine Eq.trans (jr_s (pc2 := 2) (lv2 := [(0, .ref 117), (1, .int 8)]) (st2 := [.long 8]) jF_267_1 rfl rfl) ?_
      refine Eq.trans (jr_s (pc2 := 3) (lv2 := [(0, .ref 117), (1, .int 8)]) (st2 := [.long 0, .long 8]) jF_267_2 rfl rfl) ?_
      refine Eq.trans (jr_s (pc2 := 6) (lv2 := [(0, .ref 117), (1, .int 8)]) (st2 := [.long 17, .long 0, .long 8]) jF_267_3 rfl rfl) ?_
      refine Eq.trans (jr_cS (as := [.long 8, .long 0, .long 17]) (rest := []) (v := some (.int 1)) (hp2 := jh2) (fr2 := 498) (lo2 := 19954) jF_267_6 rfl (show j_cnd 499 19979 498 19954 6 _ _ = true from rfl) ?_) ?_
      · refine Eq.trans (jr_s (pc2 := 1) (lv2 := [(0, .long 8), (2, .long 0), (4, .long 17)]) (st2 := [.long 8]) jF_232_0 rfl rfl) ?_
        refine Eq.trans (jr_s (pc2 := 2) (lv2 := [(0, .long 8), (2, .long 0), (4, .long 17)]) (st2 := [.long 0, .long 8]) jF_232_1 rfl rfl) ?_
        refine Eq.trans (jr_s (pc2 := 3) (lv2 := [(0, .long 8), (2, .long 0), (4, .long 17)]) (st2 := [.int 1]) jF_232_2 rfl rfl) ?_
        refine Eq.trans (jr_if0 jF_232_3 (by decide +kernel)) ?_
        refine Eq.trans (jr_s (pc2 := 7) (lv2 := [(0, .long 8), (2, .long 0), (4, .long 17)]) (st2 := [.long 8]) jF_232_6 rfl rfl) ?_
        refine Eq.trans (jr_s (pc2 := 9) (lv2 := [(0, .long 8), (2, .long 0), (4, .long 17)]) (st2 := [.long 17, .long 8]) jF_232_7 rfl rfl) ?_
        refine Eq.trans (jr_s (pc2 := 10) (lv2 := [(0, .long 8), (2, .long 0), (4, .long 17)]) (st2 := [.int (-1)]) jF_232_9 rfl rfl) ?_
        refine Eq.trans (jr_if0 jF_232_10 (by decide +kernel)) ?_
        refine Eq.trans (jr_s (pc2 := 14) (lv2 := [(0, .long 8), (2, .long 0), (4, .long 17)]) (st2 := [.int 1]) jF_232_13 rfl rfl) ?_
        refine Eq.trans (jr_s (pc2 := 18) (lv2 := [(0, .long 8), (2, .long 0), (4, .long 17)]) (st2 := [.int 1]) jF_232_14 rfl rfl) ?_
        exact jr_ri jF_232_18 rfl
      refine Eq.trans (jr_if0 jF_267_9 (by decide +kernel)) ?_
      refine Eq.trans (jr_s (pc2 := 13) (lv2 := [(0, .ref 117), (1, .int 8)]) (st2 := [.ref 117]) jF_267_12 rfl rfl) ?_
      refine Eq.trans (jr_gf (v := .ref 138) jF_267_13 (by decide +kernel)) ?_
      refine Eq.trans (jr_s (pc2 := 18) (lv2 := [(0, .ref 117), (1, .int 8)]) (st2 := [.int 18, .ref 138]) jF_267_16 rfl rfl) ?_
      refine Eq.trans (jr_s (pc2 := 19) (lv2 := [(0, .ref 117), (1, .int 8)]) (st2 := [.int 8, .int 18, .ref 138]) jF_267_18 rfl rfl) ?_
      refine Eq.trans (jr_s (pc2 := 20) (lv2 := [(0, .ref 117), (1, .int 8)]) (st2 := [.int 26, .ref 138]) jF_267_19 rfl rfl) ?_
      refine Eq.trans (jr_ldl (v := .long 0) jF_267_20 (by decide +kernel)) ?_
      exact jr_rl jF_267_21
    refine Eq.trans (jr_s (pc2 := 6) (lv2 := [(3, .long 0), (0, .ref 117), (1, .int 8), (2, .int a2)]) (st2 := []) jF_266_5 rfl rfl) ?_
    refine Eq.trans (jr_s (pc2 := 7) (lv2 := [(3, .long 0), (0, .ref 117), (1, .int 8), (2, .int a2)]) (st2 := [.long 0]) jF_266_6 rfl rfl) ?_
    refine Eq.trans (jr_s (pc2 := 8) (lv2 := [(3, .long 0), (0, .ref 117), (1, .int 8), (2, .int a2)]) (st2 := [.long 0, .long 0]) jF_266_7 rfl rfl) ?_
    refine Eq.trans (jr_s (pc2 := 9) (lv2 := [(3, .long 0), (0, .ref 117), (1, .int 8), (2, .int a2)]) (st2 := [.int 0]) jF_266_8 rfl rfl) ?_
    refine Eq.trans (jr_if1 jF_266_9 (by decide +kernel)) ?_
    refine Eq.trans (jr_s (pc2 := 25) (lv2 := [(3, .long 0), (0, .ref 117), (1, .int 8), (2, .int a2)]) (st2 := [.int (-1)]) jF_266_24 rfl rfl) ?_
    exact jr_ri jF_266_25 rfl
set_option maxHeartbeats 8000000 in
set_option maxRecDepth 100000 in
theorem pm_letter_L80 (a2 : Int32) (hl_a2 : 6 ≤ a2.toInt) (hh_a2 : a2.toInt ≤ 2147483647) : PM 92 266 [.int 9, .int a2] := by
  refine ⟨60000, 60000, (-1), jh2, jh2, ?_, ?_, by decide +kernel⟩
  · refine Eq.trans (jr_s (pc2 := 1) (lv2 := [(0, .ref 9), (1, .int 9), (2, .int a2)]) (st2 := [.ref 9]) jF_92_0 rfl rfl) ?_
    refine Eq.trans (jr_gf (v := .ref 20) jF_92_1 (by decide +kernel)) ?_
    refine Eq.trans (jr_s (pc2 := 5) (lv2 := [(0, .ref 9), (1, .int 9), (2, .int a2)]) (st2 := [.int 9, .ref 20]) jF_92_4 rfl rfl) ?_
    refine Eq.trans (jr_s (pc2 := 6) (lv2 := [(0, .ref 9), (1, .int 9), (2, .int a2)]) (st2 := [.int a2, .int 9, .ref 20]) jF_92_5 rfl rfl) ?_
    refine Eq.trans (jr_cV (a := 20) (as := [.int 9, .int a2]) (rest := []) (v := some (.int (-1))) (hp2 := jh2) (fr2 := 499) (lo2 := 19978) jF_92_6 (by decide +kernel) rfl (show j_cnd 500 20000 499 19978 3 _ _ = true from rfl) ?_) ?_
    · refine Eq.trans (jr_s (pc2 := 1) (lv2 := [(0, .ref 20), (1, .int 9), (2, .int a2)]) (st2 := [.int 9]) jF_93_0 rfl rfl) ?_
      refine Eq.trans (jr_if0 jF_93_1 (by decide +kernel)) ?_
      refine Eq.trans (jr_s (pc2 := 5) (lv2 := [(0, .ref 20), (1, .int 9), (2, .int a2)]) (st2 := [.int 9]) jF_93_4 rfl rfl) ?_
      refine Eq.trans (jr_s (pc2 := 6) (lv2 := [(0, .ref 20), (1, .int 9), (2, .int a2)]) (st2 := [.ref 20, .int 9]) jF_93_5 rfl rfl) ?_
      refine Eq.trans (jr_gf (v := .ref 21) jF_93_6 (by decide +kernel)) ?_
      refine Eq.trans (jr_al (v := 25) jF_93_9 (by decide +kernel)) ?_
      refine Eq.trans (jr_ic0 jF_93_10 (by decide +kernel)) ?_
      refine Eq.trans (jr_s (pc2 := 14) (lv2 := [(0, .ref 20), (1, .int 9), (2, .int a2)]) (st2 := [.int a2]) jF_93_13 rfl rfl) ?_
      refine Eq.trans (jr_if0 jF_93_14 (jk_lt_ge (show (0 : Int32).toInt ≤ (a2 : Int32).toInt by rw [show (0 : Int32).toInt = 0 from by decide]; omega))) ?_
      refine Eq.trans (jr_s (pc2 := 18) (lv2 := [(0, .ref 20), (1, .int 9), (2, .int a2)]) (st2 := [.int a2]) jF_93_17 rfl rfl) ?_
      refine Eq.trans (jr_s (pc2 := 20) (lv2 := [(0, .ref 20), (1, .int 9), (2, .int a2)]) (st2 := [.int 6, .int a2]) jF_93_18 rfl rfl) ?_
      refine Eq.trans (jr_ic1 jF_93_20 (jk_ge_ge (show (6 : Int32).toInt ≤ (a2 : Int32).toInt by rw [show (6 : Int32).toInt = 6 from by decide]; omega))) ?_
      refine Eq.trans (jr_s (pc2 := 33) (lv2 := [(0, .ref 20), (1, .int 9), (2, .int a2)]) (st2 := [.int (-1)]) jF_93_32 rfl rfl) ?_
      exact jr_ri jF_93_33 rfl
    exact jr_ri jF_92_9 rfl
  · refine Eq.trans (jr_s (pc2 := 1) (lv2 := [(0, .ref 117), (1, .int 9), (2, .int a2)]) (st2 := [.ref 117]) jF_266_0 rfl rfl) ?_
    refine Eq.trans (jr_s (pc2 := 2) (lv2 := [(0, .ref 117), (1, .int 9), (2, .int a2)]) (st2 := [.int 9, .ref 117]) jF_266_1 rfl rfl) ?_
    refine Eq.trans (jr_cV (a := 117) (as := [.int 9]) (rest := []) (v := some (.long 0)) (hp2 := jh2) (fr2 := 499) (lo2 := 19979) jF_266_2 (by decide +kernel) rfl (show j_cnd 500 20000 499 19979 2 _ _ = true from rfl) ?_) ?_
    · refine Eq.trans (jr_s (pc2 := 1) (lv2 := [(0, .ref 117), (1, .int 9)]) (st2 := [.int 9]) jF_267_0 rfl rfl) ?_
      refine Eq.trans (jr_s (pc2 := 2) (lv2 := [(0, .ref 117), (1, .int 9)]) (st2 := [.long 9]) jF_267_1 rfl rfl) ?_
      refine Eq.trans (jr_s (pc2 := 3) (lv2 := [(0, .ref 117), (1, .int 9)]) (st2 := [.long 0, .long 9]) jF_267_2 rfl rfl) ?_
      refine Eq.trans (jr_s (pc2 := 6) (lv2 := [(0, .ref 117), (1, .int 9)]) (st2 := [.long 17, .long 0, .long 9]) jF_267_3 rfl rfl) ?_
      refine Eq.trans (jr_cS (as := [.long 9, .long 0, .long 17]) (rest := []) (v := some (.int 1)) (hp2 := jh2) (fr2 := 498) (lo2 := 19954) jF_267_6 rfl (show j_cnd 499 19979 498 19954 6 _ _ = true from rfl) ?_) ?_
      · refine Eq.trans (jr_s (pc2 := 1) (lv2 := [(0, .long 9), (2, .long 0), (4, .long 17)]) (st2 := [.long 9]) jF_232_0 rfl rfl) ?_
        refine Eq.trans (jr_s (pc2 := 2) (lv2 := [(0, .long 9), (2, .long 0), (4, .long 17)]) (st2 := [.long 0, .long 9]) jF_232_1 rfl rfl) ?_
        refine Eq.trans (jr_s (pc2 := 3) (lv2 := [(0, .long 9), (2, .long 0), (4, .long 17)]) (st2 := [.int 1]) jF_232_2 rfl rfl) ?_
        refine Eq.trans (jr_if0 jF_232_3 (by decide +kernel)) ?_
        refine Eq.trans (jr_s (pc2 := 7) (lv2 := [(0, .long 9), (2, .long 0), (4, .long 17)]) (st2 := [.long 9]) jF_232_6 rfl rfl) ?_
        refine Eq.trans (jr_s (pc2 := 9) (lv2 := [(0, .long 9), (2, .long 0), (4, .long 17)]) (st2 := [.long 17, .long 9]) jF_232_7 rfl rfl) ?_
        refine Eq.trans (jr_s (pc2 := 10) (lv2 := [(0, .long 9), (2, .long 0), (4, .long 17)]) (st2 := [.int (-1)]) jF_232_9 rfl rfl) ?_
        refine Eq.trans (jr_if0 jF_232_10 (by decide +kernel)) ?_
        refine Eq.trans (jr_s (pc2 := 14) (lv2 := [(0, .long 9), (2, .long 0), (4, .long 17)]) (st2 := [.int 1]) jF_232_13 rfl rfl) ?_
        refine Eq.trans (jr_s (pc2 := 18) (lv2 := [(0, .long 9), (2, .long 0), (4, .long 17)]) (st2 := [.int 1]) jF_232_14 rfl rfl) ?_
        exact jr_ri jF_232_18 rfl
      refine Eq.trans (jr_if0 jF_267_9 (by decide +kernel)) ?_
      refine Eq.trans (jr_s (pc2 := 13) (lv2 := [(0, .ref 117), (1, .int 9)]) (st2 := [.ref 117]) jF_267_12 rfl rfl) ?_
      refine Eq.trans (jr_gf (v := .ref 138) jF_267_13 (by decide +kernel)) ?_
      refine Eq.trans (jr_s (pc2 := 18) (lv2 := [(0, .ref 117), (1, .int 9)]) (st2 := [.int 18, .ref 138]) jF_267_16 rfl rfl) ?_
      refine Eq.trans (jr_s (pc2 := 19) (lv2 := [(0, .ref 117), (1, .int 9)]) (st2 := [.int 9, .int 18, .ref 138]) jF_267_18 rfl rfl) ?_
      refine Eq.trans (jr_s (pc2 := 20) (lv2 := [(0, .ref 117), (1, .int 9)]) (st2 := [.int 27, .ref 138]) jF_267_19 rfl rfl) ?_
      refine Eq.trans (jr_ldl (v := .long 0) jF_267_20 (by decide +kernel)) ?_
      exact jr_rl jF_267_21
    refine Eq.trans (jr_s (pc2 := 6) (lv2 := [(3, .long 0), (0, .ref 117), (1, .int 9), (2, .int a2)]) (st2 := []) jF_266_5 rfl rfl) ?_
    refine Eq.trans (jr_s (pc2 := 7) (lv2 := [(3, .long 0), (0, .ref 117), (1, .int 9), (2, .int a2)]) (st2 := [.long 0]) jF_266_6 rfl rfl) ?_
    refine Eq.trans (jr_s (pc2 := 8) (lv2 := [(3, .long 0), (0, .ref 117), (1, .int 9), (2, .int a2)]) (st2 := [.long 0, .long 0]) jF_266_7 rfl rfl) ?_
    refine Eq.trans (jr_s (pc2 := 9) (lv2 := [(3, .long 0), (0, .ref 117), (1, .int 9), (2, .int a2)]) (st2 := [.int 0]) jF_266_8 rfl rfl) ?_
    refine Eq.trans (jr_if1 jF_266_9 (by decide +kernel)) ?_
    refine Eq.trans (jr_s (pc2 := 25) (lv2 := [(3, .long 0), (0, .ref 117), (1, .int 9), (2, .int a2)]) (st2 := [.int (-1)]) jF_266_24 rfl rfl) ?_
    exact jr_ri jF_266_25 rfl
set_option maxHeartbeats 8000000 in
set_option maxRecDepth 100000 in
theorem pm_letter_L81 (a2 : Int32) (hl_a2 : 6 ≤ a2.toInt) (hh_a2 : a2.toInt ≤ 2147483647) : PM 92 266 [.int 10, .int a2] := by
  refine ⟨60000, 60000, (-1), jh2, jh2, ?_, ?_, by decide +kernel⟩
  · refine Eq.trans (jr_s (pc2 := 1) (lv2 := [(0, .ref 9), (1, .int 10), (2, .int a2)]) (st2 := [.ref 9]) jF_92_0 rfl rfl) ?_
    refine Eq.trans (jr_gf (v := .ref 20) jF_92_1 (by decide +kernel)) ?_
    refine Eq.trans (jr_s (pc2 := 5) (lv2 := [(0, .ref 9), (1, .int 10), (2, .int a2)]) (st2 := [.int 10, .ref 20]) jF_92_4 rfl rfl) ?_
    refine Eq.trans (jr_s (pc2 := 6) (lv2 := [(0, .ref 9), (1, .int 10), (2, .int a2)]) (st2 := [.int a2, .int 10, .ref 20]) jF_92_5 rfl rfl) ?_
    refine Eq.trans (jr_cV (a := 20) (as := [.int 10, .int a2]) (rest := []) (v := some (.int (-1))) (hp2 := jh2) (fr2 := 499) (lo2 := 19978) jF_92_6 (by decide +kernel) rfl (show j_cnd 500 20000 499 19978 3 _ _ = true from rfl) ?_) ?_
    · refine Eq.trans (jr_s (pc2 := 1) (lv2 := [(0, .ref 20), (1, .int 10), (2, .int a2)]) (st2 := [.int 10]) jF_93_0 rfl rfl) ?_
      refine Eq.trans (jr_if0 jF_93_1 (by decide +kernel)) ?_
      refine Eq.trans (jr_s (pc2 := 5) (lv2 := [(0, .ref 20), (1, .int 10), (2, .int a2)]) (st2 := [.int 10]) jF_93_4 rfl rfl) ?_
      refine Eq.trans (jr_s (pc2 := 6) (lv2 := [(0, .ref 20), (1, .int 10), (2, .int a2)]) (st2 := [.ref 20, .int 10]) jF_93_5 rfl rfl) ?_
      refine Eq.trans (jr_gf (v := .ref 21) jF_93_6 (by decide +kernel)) ?_
      refine Eq.trans (jr_al (v := 25) jF_93_9 (by decide +kernel)) ?_
      refine Eq.trans (jr_ic0 jF_93_10 (by decide +kernel)) ?_
      refine Eq.trans (jr_s (pc2 := 14) (lv2 := [(0, .ref 20), (1, .int 10), (2, .int a2)]) (st2 := [.int a2]) jF_93_13 rfl rfl) ?_
      refine Eq.trans (jr_if0 jF_93_14 (jk_lt_ge (show (0 : Int32).toInt ≤ (a2 : Int32).toInt by rw [show (0 : Int32).toInt = 0 from by decide]; omega))) ?_
      refine Eq.trans (jr_s (pc2 := 18) (lv2 := [(0, .ref 20), (1, .int 10), (2, .int a2)]) (st2 := [.int a2]) jF_93_17 rfl rfl) ?_
      refine Eq.trans (jr_s (pc2 := 20) (lv2 := [(0, .ref 20), (1, .int 10), (2, .int a2)]) (st2 := [.int 6, .int a2]) jF_93_18 rfl rfl) ?_
      refine Eq.trans (jr_ic1 jF_93_20 (jk_ge_ge (show (6 : Int32).toInt ≤ (a2 : Int32).toInt by rw [show (6 : Int32).toInt = 6 from by decide]; omega))) ?_
      refine Eq.trans (jr_s (pc2 := 33) (lv2 := [(0, .ref 20), (1, .int 10), (2, .int a2)]) (st2 := [.int (-1)]) jF_93_32 rfl rfl) ?_
      exact jr_ri jF_93_33 rfl
    exact jr_ri jF_92_9 rfl
  · refine Eq.trans (jr_s (pc2 := 1) (lv2 := [(0, .ref 117), (1, .int 10), (2, .int a2)]) (st2 := [.ref 117]) jF_266_0 rfl rfl) ?_
    refine Eq.trans (jr_s (pc2 := 2) (lv2 := [(0, .ref 117), (1, .int 10), (2, .int a2)]) (st2 := [.int 10, .ref 117]) jF_266_1 rfl rfl) ?_
    refine Eq.trans (jr_cV (a := 117) (as := [.int 10]) (rest := []) (v := some (.long 0)) (hp2 := jh2) (fr2 := 499) (lo2 := 19979) jF_266_2 (by decide +kernel) rfl (show j_cnd 500 20000 499 19979 2 _ _ = true from rfl) ?_) ?_
    · refine Eq.trans (jr_s (pc2 := 1) (lv2 := [(0, .ref 117), (1, .int 10)]) (st2 := [.int 10]) jF_267_0 rfl rfl) ?_
      refine Eq.trans (jr_s (pc2 := 2) (lv2 := [(0, .ref 117), (1, .int 10)]) (st2 := [.long 10]) jF_267_1 rfl rfl) ?_
      refine Eq.trans (jr_s (pc2 := 3) (lv2 := [(0, .ref 117), (1, .int 10)]) (st2 := [.long 0, .long 10]) jF_267_2 rfl rfl) ?_
      refine Eq.trans (jr_s (pc2 := 6) (lv2 := [(0, .ref 117), (1, .int 10)]) (st2 := [.long 17, .long 0, .long 10]) jF_267_3 rfl rfl) ?_
      refine Eq.trans (jr_cS (as := [.long 10, .long 0, .long 17]) (rest := []) (v := some (.int 1)) (hp2 := jh2) (fr2 := 498) (lo2 := 19954) jF_267_6 rfl (show j_cnd 499 19979 498 19954 6 _ _ = true from rfl) ?_) ?_
      · refine Eq.trans (jr_s (pc2 := 1) (lv2 := [(0, .long 10), (2, .long 0), (4, .long 17)]) (st2 := [.long 10]) jF_232_0 rfl rfl) ?_
        refine Eq.trans (jr_s (pc2 := 2) (lv2 := [(0, .long 10), (2, .long 0), (4, .long 17)]) (st2 := [.long 0, .long 10]) jF_232_1 rfl rfl) ?_
        refine Eq.trans (jr_s (pc2 := 3) (lv2 := [(0, .long 10), (2, .long 0), (4, .long 17)]) (st2 := [.int 1]) jF_232_2 rfl rfl) ?_
        refine Eq.trans (jr_if0 jF_232_3 (by decide +kernel)) ?_
        refine Eq.trans (jr_s (pc2 := 7) (lv2 := [(0, .long 10), (2, .long 0), (4, .long 17)]) (st2 := [.long 10]) jF_232_6 rfl rfl) ?_
        refine Eq.trans (jr_s (pc2 := 9) (lv2 := [(0, .long 10), (2, .long 0), (4, .long 17)]) (st2 := [.long 17, .long 10]) jF_232_7 rfl rfl) ?_
        refine Eq.trans (jr_s (pc2 := 10) (lv2 := [(0, .long 10), (2, .long 0), (4, .long 17)]) (st2 := [.int (-1)]) jF_232_9 rfl rfl) ?_
        refine Eq.trans (jr_if0 jF_232_10 (by decide +kernel)) ?_
        refine Eq.trans (jr_s (pc2 := 14) (lv2 := [(0, .long 10), (2, .long 0), (4, .long 17)]) (st2 := [.int 1]) jF_232_13 rfl rfl) ?_
        refine Eq.trans (jr_s (pc2 := 18) (lv2 := [(0, .long 10), (2, .long 0), (4, .long 17)]) (st2 := [.int 1]) jF_232_14 rfl rfl) ?_
        exact jr_ri jF_232_18 rfl
      refine Eq.trans (jr_if0 jF_267_9 (by decide +kernel)) ?_
      refine Eq.trans (jr_s (pc2 := 13) (lv2 := [(0, .ref 117), (1, .int 10)]) (st2 := [.ref 117]) jF_267_12 rfl rfl) ?_
      refine Eq.trans (jr_gf (v := .ref 138) jF_267_13 (by decide +kernel)) ?_
      refine Eq.trans (jr_s (pc2 := 18) (lv2 := [(0, .ref 117), (1, .int 10)]) (st2 := [.int 18, .ref 138]) jF_267_16 rfl rfl) ?_
      refine Eq.trans (jr_s (pc2 := 19) (lv2 := [(0, .ref 117), (1, .int 10)]) (st2 := [.int 10, .int 18, .ref 138]) jF_267_18 rfl rfl) ?_
      refine Eq.trans (jr_s (pc2 := 20) (lv2 := [(0, .ref 117), (1, .int 10)]) (st2 := [.int 28, .ref 138]) jF_267_19 rfl rfl) ?_
      refine Eq.trans (jr_ldl (v := .long 0) jF_267_20 (by decide +kernel)) ?_
      exact jr_rl jF_267_21
    refine Eq.trans (jr_s (pc2 := 6) (lv2 := [(3, .long 0), (0, .ref 117), (1, .int 10), (2, .int a2)]) (st2 := []) jF_266_5 rfl rfl) ?_
    refine Eq.trans (jr_s (pc2 := 7) (lv2 := [(3, .long 0), (0, .ref 117), (1, .int 10), (2, .int a2)]) (st2 := [.long 0]) jF_266_6 rfl rfl) ?_
    refine Eq.trans (jr_s (pc2 := 8) (lv2 := [(3, .long 0), (0, .ref 117), (1, .int 10), (2, .int a2)]) (st2 := [.long 0, .long 0]) jF_266_7 rfl rfl) ?_
    refine Eq.trans (jr_s (pc2 := 9) (lv2 := [(3, .long 0), (0, .ref 117), (1, .int 10), (2, .int a2)]) (st2 := [.int 0]) jF_266_8 rfl rfl) ?_
    refine Eq.trans (jr_if1 jF_266_9 (by decide +kernel)) ?_
    refine Eq.trans (jr_s (pc2 := 25) (lv2 := [(3, .long 0), (0, .ref 117), (1, .int 10), (2, .int a2)]) (st2 := [.int (-1)]) jF_266_24 rfl rfl) ?_
    exact jr_ri jF_266_25 rfl
set_option maxHeartbeats 8000000 in
set_option maxRecDepth 100000 in
theorem pm_letter_L82 (a2 : Int32) (hl_a2 : 6 ≤ a2.toInt) (hh_a2 : a2.toInt ≤ 2147483647) : PM 92 266 [.int 11, .int a2] := by
  refine ⟨60000, 60000, (-1), jh2, jh2, ?_, ?_, by decide +kernel⟩
  · refine Eq.trans (jr_s (pc2 := 1) (lv2 := [(0, .ref 9), (1, .int 11), (2, .int a2)]) (st2 := [.ref 9]) jF_92_0 rfl rfl) ?_
    refine Eq.trans (jr_gf (v := .ref 20) jF_92_1 (by decide +kernel)) ?_
    refine Eq.trans (jr_s (pc2 := 5) (lv2 := [(0, .ref 9), (1, .int 11), (2, .int a2)]) (st2 := [.int 11, .ref 20]) jF_92_4 rfl rfl) ?_
    refine Eq.trans (jr_s (pc2 := 6) (lv2 := [(0, .ref 9), (1, .int 11), (2, .int a2)]) (st2 := [.int a2, .int 11, .ref 20]) jF_92_5 rfl rfl) ?_
    refine Eq.trans (jr_cV (a := 20) (as := [.int 11, .int a2]) (rest := []) (v := some (.int (-1))) (hp2 := jh2) (fr2 := 499) (lo2 := 19978) jF_92_6 (by decide +kernel) rfl (show j_cnd 500 20000 499 19978 3 _ _ = true from rfl) ?_) ?_
    · refine Eq.trans (jr_s (pc2 := 1) (lv2 := [(0, .ref 20), (1, .int 11), (2, .int a2)]) (st2 := [.int 11]) jF_93_0 rfl rfl) ?_
      refine Eq.trans (jr_if0 jF_93_1 (by decide +kernel)) ?_
      refine Eq.trans (jr_s (pc2 := 5) (lv2 := [(0, .ref 20), (1, .int 11), (2, .int a2)]) (st2 := [.int 11]) jF_93_4 rfl rfl) ?_
      refine Eq.trans (jr_s (pc2 := 6) (lv2 := [(0, .ref 20), (1, .int 11), (2, .int a2)]) (st2 := [.ref 20, .int 11]) jF_93_5 rfl rfl) ?_
      refine Eq.trans (jr_gf (v := .ref 21) jF_93_6 (by decide +kernel)) ?_
      refine Eq.trans (jr_al (v := 25) jF_93_9 (by decide +kernel)) ?_
      refine Eq.trans (jr_ic0 jF_93_10 (by decide +kernel)) ?_
      refine Eq.trans (jr_s (pc2 := 14) (lv2 := [(0, .ref 20), (1, .int 11), (2, .int a2)]) (st2 := [.int a2]) jF_93_13 rfl rfl) ?_
      refine Eq.trans (jr_if0 jF_93_14 (jk_lt_ge (show (0 : Int32).toInt ≤ (a2 : Int32).toInt by rw [show (0 : Int32).toInt = 0 from by decide]; omega))) ?_
      refine Eq.trans (jr_s (pc2 := 18) (lv2 := [(0, .ref 20), (1, .int 11), (2, .int a2)]) (st2 := [.int a2]) jF_93_17 rfl rfl) ?_
      refine Eq.trans (jr_s (pc2 := 20) (lv2 := [(0, .ref 20), (1, .int 11), (2, .int a2)]) (st2 := [.int 6, .int a2]) jF_93_18 rfl rfl) ?_
      refine Eq.trans (jr_ic1 jF_93_20 (jk_ge_ge (show (6 : Int32).toInt ≤ (a2 : Int32).toInt by rw [show (6 : Int32).toInt = 6 from by decide]; omega))) ?_
      refine Eq.trans (jr_s (pc2 := 33) (lv2 := [(0, .ref 20), (1, .int 11), (2, .int a2)]) (st2 := [.int (-1)]) jF_93_32 rfl rfl) ?_
      exact jr_ri jF_93_33 rfl
    exact jr_ri jF_92_9 rfl
  · refine Eq.trans (jr_s (pc2 := 1) (lv2 := [(0, .ref 117), (1, .int 11), (2, .int a2)]) (st2 := [.ref 117]) jF_266_0 rfl rfl) ?_
    refine Eq.trans (jr_s (pc2 := 2) (lv2 := [(0, .ref 117), (1, .int 11), (2, .int a2)]) (st2 := [.int 11, .ref 117]) jF_266_1 rfl rfl) ?_
    refine Eq.trans (jr_cV (a := 117) (as := [.int 11]) (rest := []) (v := some (.long 0)) (hp2 := jh2) (fr2 := 499) (lo2 := 19979) jF_266_2 (by decide +kernel) rfl (show j_cnd 500 20000 499 19979 2 _ _ = true from rfl) ?_) ?_
    · refine Eq.trans (jr_s (pc2 := 1) (lv2 := [(0, .ref 117), (1, .int 11)]) (st2 := [.int 11]) jF_267_0 rfl rfl) ?_
      refine Eq.trans (jr_s (pc2 := 2) (lv2 := [(0, .ref 117), (1, .int 11)]) (st2 := [.long 11]) jF_267_1 rfl rfl) ?_
      refine Eq.trans (jr_s (pc2 := 3) (lv2 := [(0, .ref 117), (1, .int 11)]) (st2 := [.long 0, .long 11]) jF_267_2 rfl rfl) ?_
      refine Eq.trans (jr_s (pc2 := 6) (lv2 := [(0, .ref 117), (1, .int 11)]) (st2 := [.long 17, .long 0, .long 11]) jF_267_3 rfl rfl) ?_
      refine Eq.trans (jr_cS (as := [.long 11, .long 0, .long 17]) (rest := []) (v := some (.int 1)) (hp2 := jh2) (fr2 := 498) (lo2 := 19954) jF_267_6 rfl (show j_cnd 499 19979 498 19954 6 _ _ = true from rfl) ?_) ?_
      · refine Eq.trans (jr_s (pc2 := 1) (lv2 := [(0, .long 11), (2, .long 0), (4, .long 17)]) (st2 := [.long 11]) jF_232_0 rfl rfl) ?_
        refine Eq.trans (jr_s (pc2 := 2) (lv2 := [(0, .long 11), (2, .long 0), (4, .long 17)]) (st2 := [.long 0, .long 11]) jF_232_1 rfl rfl) ?_
        refine Eq.trans (jr_s (pc2 := 3) (lv2 := [(0, .long 11), (2, .long 0), (4, .long 17)]) (st2 := [.int 1]) jF_232_2 rfl rfl) ?_
        refine Eq.trans (jr_if0 jF_232_3 (by decide +kernel)) ?_
        refine Eq.trans (jr_s (pc2 := 7) (lv2 := [(0, .long 11), (2, .long 0), (4, .long 17)]) (st2 := [.long 11]) jF_232_6 rfl rfl) ?_
        refine Eq.trans (jr_s (pc2 := 9) (lv2 := [(0, .long 11), (2, .long 0), (4, .long 17)]) (st2 := [.long 17, .long 11]) jF_232_7 rfl rfl) ?_
        refine Eq.trans (jr_s (pc2 := 10) (lv2 := [(0, .long 11), (2, .long 0), (4, .long 17)]) (st2 := [.int (-1)]) jF_232_9 rfl rfl) ?_
        refine Eq.trans (jr_if0 jF_232_10 (by decide +kernel)) ?_
        refine Eq.trans (jr_s (pc2 := 14) (lv2 := [(0, .long 11), (2, .long 0), (4, .long 17)]) (st2 := [.int 1]) jF_232_13 rfl rfl) ?_
        refine Eq.trans (jr_s (pc2 := 18) (lv2 := [(0, .long 11), (2, .long 0), (4, .long 17)]) (st2 := [.int 1]) jF_232_14 rfl rfl) ?_
        exact jr_ri jF_232_18 rfl
      refine Eq.trans (jr_if0 jF_267_9 (by decide +kernel)) ?_
      refine Eq.trans (jr_s (pc2 := 13) (lv2 := [(0, .ref 117), (1, .int 11)]) (st2 := [.ref 117]) jF_267_12 rfl rfl) ?_
      refine Eq.trans (jr_gf (v := .ref 138) jF_267_13 (by decide +kernel)) ?_
      refine Eq.trans (jr_s (pc2 := 18) (lv2 := [(0, .ref 117), (1, .int 11)]) (st2 := [.int 18, .ref 138]) jF_267_16 rfl rfl) ?_
      refine Eq.trans (jr_s (pc2 := 19) (lv2 := [(0, .ref 117), (1, .int 11)]) (st2 := [.int 11, .int 18, .ref 138]) jF_267_18 rfl rfl) ?_
      refine Eq.trans (jr_s (pc2 := 20) (lv2 := [(0, .ref 117), (1, .int 11)]) (st2 := [.int 29, .ref 138]) jF_267_19 rfl rfl) ?_
      refine Eq.trans (jr_ldl (v := .long 0) jF_267_20 (by decide +kernel)) ?_
      exact jr_rl jF_267_21
    refine Eq.trans (jr_s (pc2 := 6) (lv2 := [(3, .long 0), (0, .ref 117), (1, .int 11), (2, .int a2)]) (st2 := []) jF_266_5 rfl rfl) ?_
    refine Eq.trans (jr_s (pc2 := 7) (lv2 := [(3, .long 0), (0, .ref 117), (1, .int 11), (2, .int a2)]) (st2 := [.long 0]) jF_266_6 rfl rfl) ?_
    refine Eq.trans (jr_s (pc2 := 8) (lv2 := [(3, .long 0), (0, .ref 117), (1, .int 11), (2, .int a2)]) (st2 := [.long 0, .long 0]) jF_266_7 rfl rfl) ?_
    refine Eq.trans (jr_s (pc2 := 9) (lv2 := [(3, .long 0), (0, .ref 117), (1, .int 11), (2, .int a2)]) (st2 := [.int 0]) jF_266_8 rfl rfl) ?_
    refine Eq.trans (jr_if1 jF_266_9 (by decide +kernel)) ?_
    refine Eq.trans (jr_s (pc2 := 25) (lv2 := [(3, .long 0), (0, .ref 117), (1, .int 11), (2, .int a2)]) (st2 := [.int (-1)]) jF_266_24 rfl rfl) ?_
    exact jr_ri jF_266_25 rfl
set_option maxHeartbeats 8000000 in
set_option maxRecDepth 100000 in
theorem pm_letter_L83 (a2 : Int32) (hl_a2 : 6 ≤ a2.toInt) (hh_a2 : a2.toInt ≤ 2147483647) : PM 92 266 [.int 12, .int a2] := by
  refine ⟨60000, 60000, (-1), jh2, jh2, ?_, ?_, by decide +kernel⟩
  · refine Eq.trans (jr_s (pc2 := 1) (lv2 := [(0, .ref 9), (1, .int 12), (2, .int a2)]) (st2 := [.ref 9]) jF_92_0 rfl rfl) ?_
    refine Eq.trans (jr_gf (v := .ref 20) jF_92_1 (by decide +kernel)) ?_
    refine Eq.trans (jr_s (pc2 := 5) (lv2 := [(0, .ref 9), (1, .int 12), (2, .int a2)]) (st2 := [.int 12, .ref 20]) jF_92_4 rfl rfl) ?_
    refine Eq.trans (jr_s (pc2 := 6) (lv2 := [(0, .ref 9), (1, .int 12), (2, .int a2)]) (st2 := [.int a2, .int 12, .ref 20]) jF_92_5 rfl rfl) ?_
    refine Eq.trans (jr_cV (a := 20) (as := [.int 12, .int a2]) (rest := []) (v := some (.int (-1))) (hp2 := jh2) (fr2 := 499) (lo2 := 19978) jF_92_6 (by decide +kernel) rfl (show j_cnd 500 20000 499 19978 3 _ _ = true from rfl) ?_) ?_
    · refine Eq.trans (jr_s (pc2 := 1) (lv2 := [(0, .ref 20), (1, .int 12), (2, .int a2)]) (st2 := [.int 12]) jF_93_0 rfl rfl) ?_
      refine Eq.trans (jr_if0 jF_93_1 (by decide +kernel)) ?_
      refine Eq.trans (jr_s (pc2 := 5) (lv2 := [(0, .ref 20), (1, .int 12), (2, .int a2)]) (st2 := [.int 12]) jF_93_4 rfl rfl) ?_
      refine Eq.trans (jr_s (pc2 := 6) (lv2 := [(0, .ref 20), (1, .int 12), (2, .int a2)]) (st2 := [.ref 20, .int 12]) jF_93_5 rfl rfl) ?_
      refine Eq.trans (jr_gf (v := .ref 21) jF_93_6 (by decide +kernel)) ?_
      refine Eq.trans (jr_al (v := 25) jF_93_9 (by decide +kernel)) ?_
      refine Eq.trans (jr_ic0 jF_93_10 (by decide +kernel)) ?_
      refine Eq.trans (jr_s (pc2 := 14) (lv2 := [(0, .ref 20), (1, .int 12), (2, .int a2)]) (st2 := [.int a2]) jF_93_13 rfl rfl) ?_
      refine Eq.trans (jr_if0 jF_93_14 (jk_lt_ge (show (0 : Int32).toInt ≤ (a2 : Int32).toInt by rw [show (0 : Int32).toInt = 0 from by decide]; omega))) ?_
      refine Eq.trans (jr_s (pc2 := 18) (lv2 := [(0, .ref 20), (1, .int 12), (2, .int a2)]) (st2 := [.int a2]) jF_93_17 rfl rfl) ?_
      refine Eq.trans (jr_s (pc2 := 20) (lv2 := [(0, .ref 20), (1, .int 12), (2, .int a2)]) (st2 := [.int 6, .int a2]) jF_93_18 rfl rfl) ?_
      refine Eq.trans (jr_ic1 jF_93_20 (jk_ge_ge (show (6 : Int32).toInt ≤ (a2 : Int32).toInt by rw [show (6 : Int32).toInt = 6 from by decide]; omega))) ?_
      refine Eq.trans (jr_s (pc2 := 33) (lv2 := [(0, .ref 20), (1, .int 12), (2, .int a2)]) (st2 := [.int (-1)]) jF_93_32 rfl rfl) ?_
      exact jr_ri jF_93_33 rfl
    exact jr_ri jF_92_9 rfl
  · refine Eq.trans (jr_s (pc2 := 1) (lv2 := [(0, .ref 117), (1, .int 12), (2, .int a2)]) (st2 := [.ref 117]) jF_266_0 rfl rfl) ?_
    refine Eq.trans (jr_s (pc2 := 2) (lv2 := [(0, .ref 117), (1, .int 12), (2, .int a2)]) (st2 := [.int 12, .ref 117]) jF_266_1 rfl rfl) ?_
    refine Eq.trans (jr_cV (a := 117) (as := [.int 12]) (rest := []) (v := some (.long 0)) (hp2 := jh2) (fr2 := 499) (lo2 := 19979) jF_266_2 (by decide +kernel) rfl (show j_cnd 500 20000 499 19979 2 _ _ = true from rfl) ?_) ?_
    · refine Eq.trans (jr_s (pc2 := 1) (lv2 := [(0, .ref 117), (1, .int 12)]) (st2 := [.int 12]) jF_267_0 rfl rfl) ?_
      refine Eq.trans (jr_s (pc2 := 2) (lv2 := [(0, .ref 117), (1, .int 12)]) (st2 := [.long 12]) jF_267_1 rfl rfl) ?_
      refine Eq.trans (jr_s (pc2 := 3) (lv2 := [(0, .ref 117), (1, .int 12)]) (st2 := [.long 0, .long 12]) jF_267_2 rfl rfl) ?_
      refine Eq.trans (jr_s (pc2 := 6) (lv2 := [(0, .ref 117), (1, .int 12)]) (st2 := [.long 17, .long 0, .long 12]) jF_267_3 rfl rfl) ?_
      refine Eq.trans (jr_cS (as := [.long 12, .long 0, .long 17]) (rest := []) (v := some (.int 1)) (hp2 := jh2) (fr2 := 498) (lo2 := 19954) jF_267_6 rfl (show j_cnd 499 19979 498 19954 6 _ _ = true from rfl) ?_) ?_
      · refine Eq.trans (jr_s (pc2 := 1) (lv2 := [(0, .long 12), (2, .long 0), (4, .long 17)]) (st2 := [.long 12]) jF_232_0 rfl rfl) ?_
        refine Eq.trans (jr_s (pc2 := 2) (lv2 := [(0, .long 12), (2, .long 0), (4, .long 17)]) (st2 := [.long 0, .long 12]) jF_232_1 rfl rfl) ?_
        refine Eq.trans (jr_s (pc2 := 3) (lv2 := [(0, .long 12), (2, .long 0), (4, .long 17)]) (st2 := [.int 1]) jF_232_2 rfl rfl) ?_
        refine Eq.trans (jr_if0 jF_232_3 (by decide +kernel)) ?_
        refine Eq.trans (jr_s (pc2 := 7) (lv2 := [(0, .long 12), (2, .long 0), (4, .long 17)]) (st2 := [.long 12]) jF_232_6 rfl rfl) ?_
        refine Eq.trans (jr_s (pc2 := 9) (lv2 := [(0, .long 12), (2, .long 0), (4, .long 17)]) (st2 := [.long 17, .long 12]) jF_232_7 rfl rfl) ?_
        refine Eq.trans (jr_s (pc2 := 10) (lv2 := [(0, .long 12), (2, .long 0), (4, .long 17)]) (st2 := [.int (-1)]) jF_232_9 rfl rfl) ?_
        refine Eq.trans (jr_if0 jF_232_10 (by decide +kernel)) ?_
        refine Eq.trans (jr_s (pc2 := 14) (lv2 := [(0, .long 12), (2, .long 0), (4, .long 17)]) (st2 := [.int 1]) jF_232_13 rfl rfl) ?_
        refine Eq.trans (jr_s (pc2 := 18) (lv2 := [(0, .long 12), (2, .long 0), (4, .long 17)]) (st2 := [.int 1]) jF_232_14 rfl rfl) ?_
        exact jr_ri jF_232_18 rfl
      refine Eq.trans (jr_if0 jF_267_9 (by decide +kernel)) ?_
      refine Eq.trans (jr_s (pc2 := 13) (lv2 := [(0, .ref 117), (1, .int 12)]) (st2 := [.ref 117]) jF_267_12 rfl rfl) ?_
      refine Eq.trans (jr_gf (v := .ref 138) jF_267_13 (by decide +kernel)) ?_
      refine Eq.trans (jr_s (pc2 := 18) (lv2 := [(0, .ref 117), (1, .int 12)]) (st2 := [.int 18, .ref 138]) jF_267_16 rfl rfl) ?_
      refine Eq.trans (jr_s (pc2 := 19) (lv2 := [(0, .ref 117), (1, .int 12)]) (st2 := [.int 12, .int 18, .ref 138]) jF_267_18 rfl rfl) ?_
      refine Eq.trans (jr_s (pc2 := 20) (lv2 := [(0, .ref 117), (1, .int 12)]) (st2 := [.int 30, .ref 138]) jF_267_19 rfl rfl) ?_
      refine Eq.trans (jr_ldl (v := .long 0) jF_267_20 (by decide +kernel)) ?_
      exact jr_rl jF_267_21
    refine Eq.trans (jr_s (pc2 := 6) (lv2 := [(3, .long 0), (0, .ref 117), (1, .int 12), (2, .int a2)]) (st2 := []) jF_266_5 rfl rfl) ?_
    refine Eq.trans (jr_s (pc2 := 7) (lv2 := [(3, .long 0), (0, .ref 117), (1, .int 12), (2, .int a2)]) (st2 := [.long 0]) jF_266_6 rfl rfl) ?_
    refine Eq.trans (jr_s (pc2 := 8) (lv2 := [(3, .long 0), (0, .ref 117), (1, .int 12), (2, .int a2)]) (st2 := [.long 0, .long 0]) jF_266_7 rfl rfl) ?_
    refine Eq.trans (jr_s (pc2 := 9) (lv2 := [(3, .long 0), (0, .ref 117), (1, .int 12), (2, .int a2)]) (st2 := [.int 0]) jF_266_8 rfl rfl) ?_
    refine Eq.trans (jr_if1 jF_266_9 (by decide +kernel)) ?_
    refine Eq.trans (jr_s (pc2 := 25) (lv2 := [(3, .long 0), (0, .ref 117), (1, .int 12), (2, .int a2)]) (st2 := [.int (-1)]) jF_266_24 rfl rfl) ?_
    exact jr_ri jF_266_25 rfl
set_option maxHeartbeats 8000000 in
set_option maxRecDepth 100000 in
theorem pm_letter_L84 (a2 : Int32) (hl_a2 : 6 ≤ a2.toInt) (hh_a2 : a2.toInt ≤ 2147483647) : PM 92 266 [.int 13, .int a2] := by
  refine ⟨60000, 60000, (-1), jh2, jh2, ?_, ?_, by decide +kernel⟩
  · refine Eq.trans (jr_s (pc2 := 1) (lv2 := [(0, .ref 9), (1, .int 13), (2, .int a2)]) (st2 := [.ref 9]) jF_92_0 rfl rfl) ?_
    refine Eq.trans (jr_gf (v := .ref 20) jF_92_1 (by decide +kernel)) ?_
    refine Eq.trans (jr_s (pc2 := 5) (lv2 := [(0, .ref 9), (1, .int 13), (2, .int a2)]) (st2 := [.int 13, .ref 20]) jF_92_4 rfl rfl) ?_
    refine Eq.trans (jr_s (pc2 := 6) (lv2 := [(0, .ref 9), (1, .int 13), (2, .int a2)]) (st2 := [.int a2, .int 13, .ref 20]) jF_92_5 rfl rfl) ?_
    refine Eq.trans (jr_cV (a := 20) (as := [.int 13, .int a2]) (rest := []) (v := some (.int (-1))) (hp2 := jh2) (fr2 := 499) (lo2 := 19978) jF_92_6 (by decide +kernel) rfl (show j_cnd 500 20000 499 19978 3 _ _ = true from rfl) ?_) ?_
    · refine Eq.trans (jr_s (pc2 := 1) (lv2 := [(0, .ref 20), (1, .int 13), (2, .int a2)]) (st2 := [.int 13]) jF_93_0 rfl rfl) ?_
      refine Eq.trans (jr_if0 jF_93_1 (by decide +kernel)) ?_
      refine Eq.trans (jr_s (pc2 := 5) (lv2 := [(0, .ref 20), (1, .int 13), (2, .int a2)]) (st2 := [.int 13]) jF_93_4 rfl rfl) ?_
      refine Eq.trans (jr_s (pc2 := 6) (lv2 := [(0, .ref 20), (1, .int 13), (2, .int a2)]) (st2 := [.ref 20, .int 13]) jF_93_5 rfl rfl) ?_
      refine Eq.trans (jr_gf (v := .ref 21) jF_93_6 (by decide +kernel)) ?_
      refine Eq.trans (jr_al (v := 25) jF_93_9 (by decide +kernel)) ?_
      refine Eq.trans (jr_ic0 jF_93_10 (by decide +kernel)) ?_
      refine Eq.trans (jr_s (pc2 := 14) (lv2 := [(0, .ref 20), (1, .int 13), (2, .int a2)]) (st2 := [.int a2]) jF_93_13 rfl rfl) ?_
      refine Eq.trans (jr_if0 jF_93_14 (jk_lt_ge (show (0 : Int32).toInt ≤ (a2 : Int32).toInt by rw [show (0 : Int32).toInt = 0 from by decide]; omega))) ?_
      refine Eq.trans (jr_s (pc2 := 18) (lv2 := [(0, .ref 20), (1, .int 13), (2, .int a2)]) (st2 := [.int a2]) jF_93_17 rfl rfl) ?_
      refine Eq.trans (jr_s (pc2 := 20) (lv2 := [(0, .ref 20), (1, .int 13), (2, .int a2)]) (st2 := [.int 6, .int a2]) jF_93_18 rfl rfl) ?_
      refine Eq.trans (jr_ic1 jF_93_20 (jk_ge_ge (show (6 : Int32).toInt ≤ (a2 : Int32).toInt by rw [show (6 : Int32).toInt = 6 from by decide]; omega))) ?_
      refine Eq.trans (jr_s (pc2 := 33) (lv2 := [(0, .ref 20), (1, .int 13), (2, .int a2)]) (st2 := [.int (-1)]) jF_93_32 rfl rfl) ?_
      exact jr_ri jF_93_33 rfl
    exact jr_ri jF_92_9 rfl
  · refine Eq.trans (jr_s (pc2 := 1) (lv2 := [(0, .ref 117), (1, .int 13), (2, .int a2)]) (st2 := [.ref 117]) jF_266_0 rfl rfl) ?_
    refine Eq.trans (jr_s (pc2 := 2) (lv2 := [(0, .ref 117), (1, .int 13), (2, .int a2)]) (st2 := [.int 13, .ref 117]) jF_266_1 rfl rfl) ?_
    refine Eq.trans (jr_cV (a := 117) (as := [.int 13]) (rest := []) (v := some (.long 0)) (hp2 := jh2) (fr2 := 499) (lo2 := 19979) jF_266_2 (by decide +kernel) rfl (show j_cnd 500 20000 499 19979 2 _ _ = true from rfl) ?_) ?_
    · refine Eq.trans (jr_s (pc2 := 1) (lv2 := [(0, .ref 117), (1, .int 13)]) (st2 := [.int 13]) jF_267_0 rfl rfl) ?_
      refine Eq.trans (jr_s (pc2 := 2) (lv2 := [(0, .ref 117), (1, .int 13)]) (st2 := [.long 13]) jF_267_1 rfl rfl) ?_
      refine Eq.trans (jr_s (pc2 := 3) (lv2 := [(0, .ref 117), (1, .int 13)]) (st2 := [.long 0, .long 13]) jF_267_2 rfl rfl) ?_
      refine Eq.trans (jr_s (pc2 := 6) (lv2 := [(0, .ref 117), (1, .int 13)]) (st2 := [.long 17, .long 0, .long 13]) jF_267_3 rfl rfl) ?_
      refine Eq.trans (jr_cS (as := [.long 13, .long 0, .long 17]) (rest := []) (v := some (.int 1)) (hp2 := jh2) (fr2 := 498) (lo2 := 19954) jF_267_6 rfl (show j_cnd 499 19979 498 19954 6 _ _ = true from rfl) ?_) ?_
      · refine Eq.trans (jr_s (pc2 := 1) (lv2 := [(0, .long 13), (2, .long 0), (4, .long 17)]) (st2 := [.long 13]) jF_232_0 rfl rfl) ?_
        refine Eq.trans (jr_s (pc2 := 2) (lv2 := [(0, .long 13), (2, .long 0), (4, .long 17)]) (st2 := [.long 0, .long 13]) jF_232_1 rfl rfl) ?_
        refine Eq.trans (jr_s (pc2 := 3) (lv2 := [(0, .long 13), (2, .long 0), (4, .long 17)]) (st2 := [.int 1]) jF_232_2 rfl rfl) ?_
        refine Eq.trans (jr_if0 jF_232_3 (by decide +kernel)) ?_
        refine Eq.trans (jr_s (pc2 := 7) (lv2 := [(0, .long 13), (2, .long 0), (4, .long 17)]) (st2 := [.long 13]) jF_232_6 rfl rfl) ?_
        refine Eq.trans (jr_s (pc2 := 9) (lv2 := [(0, .long 13), (2, .long 0), (4, .long 17)]) (st2 := [.long 17, .long 13]) jF_232_7 rfl rfl) ?_
        refine Eq.trans (jr_s (pc2 := 10) (lv2 := [(0, .long 13), (2, .long 0), (4, .long 17)]) (st2 := [.int (-1)]) jF_232_9 rfl rfl) ?_
        refine Eq.trans (jr_if0 jF_232_10 (by decide +kernel)) ?_
        refine Eq.trans (jr_s (pc2 := 14) (lv2 := [(0, .long 13), (2, .long 0), (4, .long 17)]) (st2 := [.int 1]) jF_232_13 rfl rfl) ?_
        refine Eq.trans (jr_s (pc2 := 18) (lv2 := [(0, .long 13), (2, .long 0), (4, .long 17)]) (st2 := [.int 1]) jF_232_14 rfl rfl) ?_
        exact jr_ri jF_232_18 rfl
      refine Eq.trans (jr_if0 jF_267_9 (by decide +kernel)) ?_
      refine Eq.trans (jr_s (pc2 := 13) (lv2 := [(0, .ref 117), (1, .int 13)]) (st2 := [.ref 117]) jF_267_12 rfl rfl) ?_
      refine Eq.trans (jr_gf (v := .ref 138) jF_267_13 (by decide +kernel)) ?_
      refine Eq.trans (jr_s (pc2 := 18) (lv2 := [(0, .ref 117), (1, .int 13)]) (st2 := [.int 18, .ref 138]) jF_267_16 rfl rfl) ?_
      refine Eq.trans (jr_s (pc2 := 19) (lv2 := [(0, .ref 117), (1, .int 13)]) (st2 := [.int 13, .int 18, .ref 138]) jF_267_18 rfl rfl) ?_
      refine Eq.trans (jr_s (pc2 := 20) (lv2 := [(0, .ref 117), (1, .int 13)]) (st2 := [.int 31, .ref 138]) jF_267_19 rfl rfl) ?_
      refine Eq.trans (jr_ldl (v := .long 0) jF_267_20 (by decide +kernel)) ?_
      exact jr_rl jF_267_21
    refine Eq.trans (jr_s (pc2 := 6) (lv2 := [(3, .long 0), (0, .ref 117), (1, .int 13), (2, .int a2)]) (st2 := []) jF_266_5 rfl rfl) ?_
    refine Eq.trans (jr_s (pc2 := 7) (lv2 := [(3, .long 0), (0, .ref 117), (1, .int 13), (2, .int a2)]) (st2 := [.long 0]) jF_266_6 rfl rfl) ?_
    refine Eq.trans (jr_s (pc2 := 8) (lv2 := [(3, .long 0), (0, .ref 117), (1, .int 13), (2, .int a2)]) (st2 := [.long 0, .long 0]) jF_266_7 rfl rfl) ?_
    refine Eq.trans (jr_s (pc2 := 9) (lv2 := [(3, .long 0), (0, .ref 117), (1, .int 13), (2, .int a2)]) (st2 := [.int 0]) jF_266_8 rfl rfl) ?_
    refine Eq.trans (jr_if1 jF_266_9 (by decide +kernel)) ?_
    refine Eq.trans (jr_s (pc2 := 25) (lv2 := [(3, .long 0), (0, .ref 117), (1, .int 13), (2, .int a2)]) (st2 := [.int (-1)]) jF_266_24 rfl rfl) ?_
    exact jr_ri jF_266_25 rfl
set_option maxHeartbeats 8000000 in
set_option maxRecDepth 100000 in
theorem pm_letter_L85 (a2 : Int32) (hl_a2 : 6 ≤ a2.toInt) (hh_a2 : a2.toInt ≤ 2147483647) : PM 92 266 [.int 14, .int a2] := by
  refine ⟨60000, 60000, (-1), jh2, jh2, ?_, ?_, by decide +kernel⟩
  · refine Eq.trans (jr_s (pc2 := 1) (lv2 := [(0, .ref 9), (1, .int 14), (2, .int a2)]) (st2 := [.ref 9]) jF_92_0 rfl rfl) ?_
    refine Eq.trans (jr_gf (v := .ref 20) jF_92_1 (by decide +kernel)) ?_
    refine Eq.trans (jr_s (pc2 := 5) (lv2 := [(0, .ref 9), (1, .int 14), (2, .int a2)]) (st2 := [.int 14, .ref 20]) jF_92_4 rfl rfl) ?_
    refine Eq.trans (jr_s (pc2 := 6) (lv2 := [(0, .ref 9), (1, .int 14), (2, .int a2)]) (st2 := [.int a2, .int 14, .ref 20]) jF_92_5 rfl rfl) ?_
    refine Eq.trans (jr_cV (a := 20) (as := [.int 14, .int a2]) (rest := []) (v := some (.int (-1))) (hp2 := jh2) (fr2 := 499) (lo2 := 19978) jF_92_6 (by decide +kernel) rfl (show j_cnd 500 20000 499 19978 3 _ _ = true from rfl) ?_) ?_
    · refine Eq.trans (jr_s (pc2 := 1) (lv2 := [(0, .ref 20), (1, .int 14), (2, .int a2)]) (st2 := [.int 14]) jF_93_0 rfl rfl) ?_
      refine Eq.trans (jr_if0 jF_93_1 (by decide +kernel)) ?_
      refine Eq.trans (jr_s (pc2 := 5) (lv2 := [(0, .ref 20), (1, .int 14), (2, .int a2)]) (st2 := [.int 14]) jF_93_4 rfl rfl) ?_
      refine Eq.trans (jr_s (pc2 := 6) (lv2 := [(0, .ref 20), (1, .int 14), (2, .int a2)]) (st2 := [.ref 20, .int 14]) jF_93_5 rfl rfl) ?_
      refine Eq.trans (jr_gf (v := .ref 21) jF_93_6 (by decide +kernel)) ?_
      refine Eq.trans (jr_al (v := 25) jF_93_9 (by decide +kernel)) ?_
      refine Eq.trans (jr_ic0 jF_93_10 (by decide +kernel)) ?_
      refine Eq.trans (jr_s (pc2 := 14) (lv2 := [(0, .ref 20), (1, .int 14), (2, .int a2)]) (st2 := [.int a2]) jF_93_13 rfl rfl) ?_
      refine Eq.trans (jr_if0 jF_93_14 (jk_lt_ge (show (0 : Int32).toInt ≤ (a2 : Int32).toInt by rw [show (0 : Int32).toInt = 0 from by decide]; omega))) ?_
      refine Eq.trans (jr_s (pc2 := 18) (lv2 := [(0, .ref 20), (1, .int 14), (2, .int a2)]) (st2 := [.int a2]) jF_93_17 rfl rfl) ?_
      refine Eq.trans (jr_s (pc2 := 20) (lv2 := [(0, .ref 20), (1, .int 14), (2, .int a2)]) (st2 := [.int 6, .int a2]) jF_93_18 rfl rfl) ?_
      refine Eq.trans (jr_ic1 jF_93_20 (jk_ge_ge (show (6 : Int32).toInt ≤ (a2 : Int32).toInt by rw [show (6 : Int32).toInt = 6 from by decide]; omega))) ?_
      refine Eq.trans (jr_s (pc2 := 33) (lv2 := [(0, .ref 20), (1, .int 14), (2, .int a2)]) (st2 := [.int (-1)]) jF_93_32 rfl rfl) ?_
      exact jr_ri jF_93_33 rfl
    exact jr_ri jF_92_9 rfl
  · refine Eq.trans (jr_s (pc2 := 1) (lv2 := [(0, .ref 117), (1, .int 14), (2, .int a2)]) (st2 := [.ref 117]) jF_266_0 rfl rfl) ?_
    refine Eq.trans (jr_s (pc2 := 2) (lv2 := [(0, .ref 117), (1, .int 14), (2, .int a2)]) (st2 := [.int 14, .ref 117]) jF_266_1 rfl rfl) ?_
    refine Eq.trans (jr_cV (a := 117) (as := [.int 14]) (rest := []) (v := some (.long 0)) (hp2 := jh2) (fr2 := 499) (lo2 := 19979) jF_266_2 (by decide +kernel) rfl (show j_cnd 500 20000 499 19979 2 _ _ = true from rfl) ?_) ?_
    · refine Eq.trans (jr_s (pc2 := 1) (lv2 := [(0, .ref 117), (1, .int 14)]) (st2 := [.int 14]) jF_267_0 rfl rfl) ?_
      refine Eq.trans (jr_s (pc2 := 2) (lv2 := [(0, .ref 117), (1, .int 14)]) (st2 := [.long 14]) jF_267_1 rfl rfl) ?_
      refine Eq.trans (jr_s (pc2 := 3) (lv2 := [(0, .ref 117), (1, .int 14)]) (st2 := [.long 0, .long 14]) jF_267_2 rfl rfl) ?_
      refine Eq.trans (jr_s (pc2 := 6) (lv2 := [(0, .ref 117), (1, .int 14)]) (st2 := [.long 17, .long 0, .long 14]) jF_267_3 rfl rfl) ?_
      refine Eq.trans (jr_cS (as := [.long 14, .long 0, .long 17]) (rest := []) (v := some (.int 1)) (hp2 := jh2) (fr2 := 498) (lo2 := 19954) jF_267_6 rfl (show j_cnd 499 19979 498 19954 6 _ _ = true from rfl) ?_) ?_
      · refine Eq.trans (jr_s (pc2 := 1) (lv2 := [(0, .long 14), (2, .long 0), (4, .long 17)]) (st2 := [.long 14]) jF_232_0 rfl rfl) ?_
        refine Eq.trans (jr_s (pc2 := 2) (lv2 := [(0, .long 14), (2, .long 0), (4, .long 17)]) (st2 := [.long 0, .long 14]) jF_232_1 rfl rfl) ?_
        refine Eq.trans (jr_s (pc2 := 3) (lv2 := [(0, .long 14), (2, .long 0), (4, .long 17)]) (st2 := [.int 1]) jF_232_2 rfl rfl) ?_
        refine Eq.trans (jr_if0 jF_232_3 (by decide +kernel)) ?_
        refine Eq.trans (jr_s (pc2 := 7) (lv2 := [(0, .long 14), (2, .long 0), (4, .long 17)]) (st2 := [.long 14]) jF_232_6 rfl rfl) ?_
        refine Eq.trans (jr_s (pc2 := 9) (lv2 := [(0, .long 14), (2, .long 0), (4, .long 17)]) (st2 := [.long 17, .long 14]) jF_232_7 rfl rfl) ?_
        refine Eq.trans (jr_s (pc2 := 10) (lv2 := [(0, .long 14), (2, .long 0), (4, .long 17)]) (st2 := [.int (-1)]) jF_232_9 rfl rfl) ?_
        refine Eq.trans (jr_if0 jF_232_10 (by decide +kernel)) ?_
        refine Eq.trans (jr_s (pc2 := 14) (lv2 := [(0, .long 14), (2, .long 0), (4, .long 17)]) (st2 := [.int 1]) jF_232_13 rfl rfl) ?_
        refine Eq.trans (jr_s (pc2 := 18) (lv2 := [(0, .long 14), (2, .long 0), (4, .long 17)]) (st2 := [.int 1]) jF_232_14 rfl rfl) ?_
        exact jr_ri jF_232_18 rfl
      refine Eq.trans (jr_if0 jF_267_9 (by decide +kernel)) ?_
      refine Eq.trans (jr_s (pc2 := 13) (lv2 := [(0, .ref 117), (1, .int 14)]) (st2 := [.ref 117]) jF_267_12 rfl rfl) ?_
      refine Eq.trans (jr_gf (v := .ref 138) jF_267_13 (by decide +kernel)) ?_
      refine Eq.trans (jr_s (pc2 := 18) (lv2 := [(0, .ref 117), (1, .int 14)]) (st2 := [.int 18, .ref 138]) jF_267_16 rfl rfl) ?_
      refine Eq.trans (jr_s (pc2 := 19) (lv2 := [(0, .ref 117), (1, .int 14)]) (st2 := [.int 14, .int 18, .ref 138]) jF_267_18 rfl rfl) ?_
      refine Eq.trans (jr_s (pc2 := 20) (lv2 := [(0, .ref 117), (1, .int 14)]) (st2 := [.int 32, .ref 138]) jF_267_19 rfl rfl) ?_
      refine Eq.trans (jr_ldl (v := .long 0) jF_267_20 (by decide +kernel)) ?_
      exact jr_rl jF_267_21
    refine Eq.trans (jr_s (pc2 := 6) (lv2 := [(3, .long 0), (0, .ref 117), (1, .int 14), (2, .int a2)]) (st2 := []) jF_266_5 rfl rfl) ?_
    refine Eq.trans (jr_s (pc2 := 7) (lv2 := [(3, .long 0), (0, .ref 117), (1, .int 14), (2, .int a2)]) (st2 := [.long 0]) jF_266_6 rfl rfl) ?_
    refine Eq.trans (jr_s (pc2 := 8) (lv2 := [(3, .long 0), (0, .ref 117), (1, .int 14), (2, .int a2)]) (st2 := [.long 0, .long 0]) jF_266_7 rfl rfl) ?_
    refine Eq.trans (jr_s (pc2 := 9) (lv2 := [(3, .long 0), (0, .ref 117), (1, .int 14), (2, .int a2)]) (st2 := [.int 0]) jF_266_8 rfl rfl) ?_
    refine Eq.trans (jr_if1 jF_266_9 (by decide +kernel)) ?_
    refine Eq.trans (jr_s (pc2 := 25) (lv2 := [(3, .long 0), (0, .ref 117), (1, .int 14), (2, .int a2)]) (st2 := [.int (-1)]) jF_266_24 rfl rfl) ?_
    exact jr_ri jF_266_25 rfl
set_option maxHeartbeats 8000000 in
set_option maxRecDepth 100000 in
theorem pm_letter_L86 (a2 : Int32) (hl_a2 : 6 ≤ a2.toInt) (hh_a2 : a2.toInt ≤ 2147483647) : PM 92 266 [.int 15, .int a2] := by
  refine ⟨60000, 60000, (-1), jh2, jh2, ?_, ?_, by decide +kernel⟩
  · refine Eq.trans (jr_s (pc2 := 1) (lv2 := [(0, .ref 9), (1, .int 15), (2, .int a2)]) (st2 := [.ref 9]) jF_92_0 rfl rfl) ?_
    refine Eq.trans (jr_gf (v := .ref 20) jF_92_1 (by decide +kernel)) ?_
    refine Eq.trans (jr_s (pc2 := 5) (lv2 := [(0, .ref 9), (1, .int 15), (2, .int a2)]) (st2 := [.int 15, .ref 20]) jF_92_4 rfl rfl) ?_
    refine Eq.trans (jr_s (pc2 := 6) (lv2 := [(0, .ref 9), (1, .int 15), (2, .int a2)]) (st2 := [.int a2, .int 15, .ref 20]) jF_92_5 rfl rfl) ?_
    refine Eq.trans (jr_cV (a := 20) (as := [.int 15, .int a2]) (rest := []) (v := some (.int (-1))) (hp2 := jh2) (fr2 := 499) (lo2 := 19978) jF_92_6 (by decide +kernel) rfl (show j_cnd 500 20000 499 19978 3 _ _ = true from rfl) ?_) ?_
    · refine Eq.trans (jr_s (pc2 := 1) (lv2 := [(0, .ref 20), (1, .int 15), (2, .int a2)]) (st2 := [.int 15]) jF_93_0 rfl rfl) ?_
      refine Eq.trans (jr_if0 jF_93_1 (by decide +kernel)) ?_
      refine Eq.trans (jr_s (pc2 := 5) (lv2 := [(0, .ref 20), (1, .int 15), (2, .int a2)]) (st2 := [.int 15]) jF_93_4 rfl rfl) ?_
      refine Eq.trans (jr_s (pc2 := 6) (lv2 := [(0, .ref 20), (1, .int 15), (2, .int a2)]) (st2 := [.ref 20, .int 15]) jF_93_5 rfl rfl) ?_
      refine Eq.trans (jr_gf (v := .ref 21) jF_93_6 (by decide +kernel)) ?_
      refine Eq.trans (jr_al (v := 25) jF_93_9 (by decide +kernel)) ?_
      refine Eq.trans (jr_ic0 jF_93_10 (by decide +kernel)) ?_
      refine Eq.trans (jr_s (pc2 := 14) (lv2 := [(0, .ref 20), (1, .int 15), (2, .int a2)]) (st2 := [.int a2]) jF_93_13 rfl rfl) ?_
      refine Eq.trans (jr_if0 jF_93_14 (jk_lt_ge (show (0 : Int32).toInt ≤ (a2 : Int32).toInt by rw [show (0 : Int32).toInt = 0 from by decide]; omega))) ?_
      refine Eq.trans (jr_s (pc2 := 18) (lv2 := [(0, .ref 20), (1, .int 15), (2, .int a2)]) (st2 := [.int a2]) jF_93_17 rfl rfl) ?_
      refine Eq.trans (jr_s (pc2 := 20) (lv2 := [(0, .ref 20), (1, .int 15), (2, .int a2)]) (st2 := [.int 6, .int a2]) jF_93_18 rfl rfl) ?_
      refine Eq.trans (jr_ic1 jF_93_20 (jk_ge_ge (show (6 : Int32).toInt ≤ (a2 : Int32).toInt by rw [show (6 : Int32).toInt = 6 from by decide]; omega))) ?_
      refine Eq.trans (jr_s (pc2 := 33) (lv2 := [(0, .ref 20), (1, .int 15), (2, .int a2)]) (st2 := [.int (-1)]) jF_93_32 rfl rfl) ?_
      exact jr_ri jF_93_33 rfl
    exact jr_ri jF_92_9 rfl
  · refine Eq.trans (jr_s (pc2 := 1) (lv2 := [(0, .ref 117), (1, .int 15), (2, .int a2)]) (st2 := [.ref 117]) jF_266_0 rfl rfl) ?_
    refine Eq.trans (jr_s (pc2 := 2) (lv2 := [(0, .ref 117), (1, .int 15), (2, .int a2)]) (st2 := [.int 15, .ref 117]) jF_266_1 rfl rfl) ?_
    refine Eq.trans (jr_cV (a := 117) (as := [.int 15]) (rest := []) (v := some (.long 0)) (hp2 := jh2) (fr2 := 499) (lo2 := 19979) jF_266_2 (by decide +kernel) rfl (show j_cnd 500 20000 499 19979 2 _ _ = true from rfl) ?_) ?_
    · refine Eq.trans (jr_s (pc2 := 1) (lv2 := [(0, .ref 117), (1, .int 15)]) (st2 := [.int 15]) jF_267_0 rfl rfl) ?_
      refine Eq.trans (jr_s (pc2 := 2) (lv2 := [(0, .ref 117), (1, .int 15)]) (st2 := [.long 15]) jF_267_1 rfl rfl) ?_
      refine Eq.trans (jr_s (pc2 := 3) (lv2 := [(0, .ref 117), (1, .int 15)]) (st2 := [.long 0, .long 15]) jF_267_2 rfl rfl) ?_
      refine Eq.trans (jr_s (pc2 := 6) (lv2 := [(0, .ref 117), (1, .int 15)]) (st2 := [.long 17, .long 0, .long 15]) jF_267_3 rfl rfl) ?_
      refine Eq.trans (jr_cS (as := [.long 15, .long 0, .long 17]) (rest := []) (v := some (.int 1)) (hp2 := jh2) (fr2 := 498) (lo2 := 19954) jF_267_6 rfl (show j_cnd 499 19979 498 19954 6 _ _ = true from rfl) ?_) ?_
      · refine Eq.trans (jr_s (pc2 := 1) (lv2 := [(0, .long 15), (2, .long 0), (4, .long 17)]) (st2 := [.long 15]) jF_232_0 rfl rfl) ?_
        refine Eq.trans (jr_s (pc2 := 2) (lv2 := [(0, .long 15), (2, .long 0), (4, .long 17)]) (st2 := [.long 0, .long 15]) jF_232_1 rfl rfl) ?_
        refine Eq.trans (jr_s (pc2 := 3) (lv2 := [(0, .long 15), (2, .long 0), (4, .long 17)]) (st2 := [.int 1]) jF_232_2 rfl rfl) ?_
        refine Eq.trans (jr_if0 jF_232_3 (by decide +kernel)) ?_
        refine Eq.trans (jr_s (pc2 := 7) (lv2 := [(0, .long 15), (2, .long 0), (4, .long 17)]) (st2 := [.long 15]) jF_232_6 rfl rfl) ?_
        refine Eq.trans (jr_s (pc2 := 9) (lv2 := [(0, .long 15), (2, .long 0), (4, .long 17)]) (st2 := [.long 17, .long 15]) jF_232_7 rfl rfl) ?_
        refine Eq.trans (jr_s (pc2 := 10) (lv2 := [(0, .long 15), (2, .long 0), (4, .long 17)]) (st2 := [.int (-1)]) jF_232_9 rfl rfl) ?_
        refine Eq.trans (jr_if0 jF_232_10 (by decide +kernel)) ?_
        refine Eq.trans (jr_s (pc2 := 14) (lv2 := [(0, .long 15), (2, .long 0), (4, .long 17)]) (st2 := [.int 1]) jF_232_13 rfl rfl) ?_
        refine Eq.trans (jr_s (pc2 := 18) (lv2 := [(0, .long 15), (2, .long 0), (4, .long 17)]) (st2 := [.int 1]) jF_232_14 rfl rfl) ?_
        exact jr_ri jF_232_18 rfl
      refine Eq.trans (jr_if0 jF_267_9 (by decide +kernel)) ?_
      refine Eq.trans (jr_s (pc2 := 13) (lv2 := [(0, .ref 117), (1, .int 15)]) (st2 := [.ref 117]) jF_267_12 rfl rfl) ?_
      refine Eq.trans (jr_gf (v := .ref 138) jF_267_13 (by decide +kernel)) ?_
      refine Eq.trans (jr_s (pc2 := 18) (lv2 := [(0, .ref 117), (1, .int 15)]) (st2 := [.int 18, .ref 138]) jF_267_16 rfl rfl) ?_
      refine Eq.trans (jr_s (pc2 := 19) (lv2 := [(0, .ref 117), (1, .int 15)]) (st2 := [.int 15, .int 18, .ref 138]) jF_267_18 rfl rfl) ?_
      refine Eq.trans (jr_s (pc2 := 20) (lv2 := [(0, .ref 117), (1, .int 15)]) (st2 := [.int 33, .ref 138]) jF_267_19 rfl rfl) ?_
      refine Eq.trans (jr_ldl (v := .long 0) jF_267_20 (by decide +kernel)) ?_
      exact jr_rl jF_267_21
    refine Eq.trans (jr_s (pc2 := 6) (lv2 := [(3, .long 0), (0, .ref 117), (1, .int 15), (2, .int a2)]) (st2 := []) jF_266_5 rfl rfl) ?_
    refine Eq.trans (jr_s (pc2 := 7) (lv2 := [(3, .long 0), (0, .ref 117), (1, .int 15), (2, .int a2)]) (st2 := [.long 0]) jF_266_6 rfl rfl) ?_
    refine Eq.trans (jr_s (pc2 := 8) (lv2 := [(3, .long 0), (0, .ref 117), (1, .int 15), (2, .int a2)]) (st2 := [.long 0, .long 0]) jF_266_7 rfl rfl) ?_
    refine Eq.trans (jr_s (pc2 := 9) (lv2 := [(3, .long 0), (0, .ref 117), (1, .int 15), (2, .int a2)]) (st2 := [.int 0]) jF_266_8 rfl rfl) ?_
    refine Eq.trans (jr_if1 jF_266_9 (by decide +kernel)) ?_
    refine Eq.trans (jr_s (pc2 := 25) (lv2 := [(3, .long 0), (0, .ref 117), (1, .int 15), (2, .int a2)]) (st2 := [.int (-1)]) jF_266_24 rfl rfl) ?_
    exact jr_ri jF_266_25 rfl
set_option maxHeartbeats 8000000 in
set_option maxRecDepth 100000 in
theorem pm_letter_L87 (a2 : Int32) (hl_a2 : 6 ≤ a2.toInt) (hh_a2 : a2.toInt ≤ 2147483647) : PM 92 266 [.int 16, .int a2] := by
  refine ⟨60000, 60000, (-1), jh2, jh2, ?_, ?_, by decide +kernel⟩
  · refine Eq.trans (jr_s (pc2 := 1) (lv2 := [(0, .ref 9), (1, .int 16), (2, .int a2)]) (st2 := [.ref 9]) jF_92_0 rfl rfl) ?_
    refine Eq.trans (jr_gf (v := .ref 20) jF_92_1 (by decide +kernel)) ?_
    refine Eq.trans (jr_s (pc2 := 5) (lv2 := [(0, .ref 9), (1, .int 16), (2, .int a2)]) (st2 := [.int 16, .ref 20]) jF_92_4 rfl rfl) ?_
    refine Eq.trans (jr_s (pc2 := 6) (lv2 := [(0, .ref 9), (1, .int 16), (2, .int a2)]) (st2 := [.int a2, .int 16, .ref 20]) jF_92_5 rfl rfl) ?_
    refine Eq.trans (jr_cV (a := 20) (as := [.int 16, .int a2]) (rest := []) (v := some (.int (-1))) (hp2 := jh2) (fr2 := 499) (lo2 := 19978) jF_92_6 (by decide +kernel) rfl (show j_cnd 500 20000 499 19978 3 _ _ = true from rfl) ?_) ?_
    · refine Eq.trans (jr_s (pc2 := 1) (lv2 := [(0, .ref 20), (1, .int 16), (2, .int a2)]) (st2 := [.int 16]) jF_93_0 rfl rfl) ?_
      refine Eq.trans (jr_if0 jF_93_1 (by decide +kernel)) ?_
      refine Eq.trans (jr_s (pc2 := 5) (lv2 := [(0, .ref 20), (1, .int 16), (2, .int a2)]) (st2 := [.int 16]) jF_93_4 rfl rfl) ?_
      refine Eq.trans (jr_s (pc2 := 6) (lv2 := [(0, .ref 20), (1, .int 16), (2, .int a2)]) (st2 := [.ref 20, .int 16]) jF_93_5 rfl rfl) ?_
      refine Eq.trans (jr_gf (v := .ref 21) jF_93_6 (by decide +kernel)) ?_
      refine Eq.trans (jr_al (v := 25) jF_93_9 (by decide +kernel)) ?_
      refine Eq.trans (jr_ic0 jF_93_10 (by decide +kernel)) ?_
      refine Eq.trans (jr_s (pc2 := 14) (lv2 := [(0, .ref 20), (1, .int 16), (2, .int a2)]) (st2 := [.int a2]) jF_93_13 rfl rfl) ?_
      refine Eq.trans (jr_if0 jF_93_14 (jk_lt_ge (show (0 : Int32).toInt ≤ (a2 : Int32).toInt by rw [show (0 : Int32).toInt = 0 from by decide]; omega))) ?_
      refine Eq.trans (jr_s (pc2 := 18) (lv2 := [(0, .ref 20), (1, .int 16), (2, .int a2)]) (st2 := [.int a2]) jF_93_17 rfl rfl) ?_
      refine Eq.trans (jr_s (pc2 := 20) (lv2 := [(0, .ref 20), (1, .int 16), (2, .int a2)]) (st2 := [.int 6, .int a2]) jF_93_18 rfl rfl) ?_
      refine Eq.trans (jr_ic1 jF_93_20 (jk_ge_ge (show (6 : Int32).toInt ≤ (a2 : Int32).toInt by rw [show (6 : Int32).toInt = 6 from by decide]; omega))) ?_
      refine Eq.trans (jr_s (pc2 := 33) (lv2 := [(0, .ref 20), (1, .int 16), (2, .int a2)]) (st2 := [.int (-1)]) jF_93_32 rfl rfl) ?_
      exact jr_ri jF_93_33 rfl
    exact jr_ri jF_92_9 rfl
  · refine Eq.trans (jr_s (pc2 := 1) (lv2 := [(0, .ref 117), (1, .int 16), (2, .int a2)]) (st2 := [.ref 117]) jF_266_0 rfl rfl) ?_
    refine Eq.trans (jr_s (pc2 := 2) (lv2 := [(0, .ref 117), (1, .int 16), (2, .int a2)]) (st2 := [.int 16, .ref 117]) jF_266_1 rfl rfl) ?_
    refine Eq.trans (jr_cV (a := 117) (as := [.int 16]) (rest := []) (v := some (.long 0)) (hp2 := jh2) (fr2 := 499) (lo2 := 19979) jF_266_2 (by decide +kernel) rfl (show j_cnd 500 20000 499 19979 2 _ _ = true from rfl) ?_) ?_
    · refine Eq.trans (jr_s (pc2 := 1) (lv2 := [(0, .ref 117), (1, .int 16)]) (st2 := [.int 16]) jF_267_0 rfl rfl) ?_
      refine Eq.trans (jr_s (pc2 := 2) (lv2 := [(0, .ref 117), (1, .int 16)]) (st2 := [.long 16]) jF_267_1 rfl rfl) ?_
      refine Eq.trans (jr_s (pc2 := 3) (lv2 := [(0, .ref 117), (1, .int 16)]) (st2 := [.long 0, .long 16]) jF_267_2 rfl rfl) ?_
      refine Eq.trans (jr_s (pc2 := 6) (lv2 := [(0, .ref 117), (1, .int 16)]) (st2 := [.long 17, .long 0, .long 16]) jF_267_3 rfl rfl) ?_
      refine Eq.trans (jr_cS (as := [.long 16, .long 0, .long 17]) (rest := []) (v := some (.int 1)) (hp2 := jh2) (fr2 := 498) (lo2 := 19954) jF_267_6 rfl (show j_cnd 499 19979 498 19954 6 _ _ = true from rfl) ?_) ?_
      · refine Eq.trans (jr_s (pc2 := 1) (lv2 := [(0, .long 16), (2, .long 0), (4, .long 17)]) (st2 := [.long 16]) jF_232_0 rfl rfl) ?_
        refine Eq.trans (jr_s (pc2 := 2) (lv2 := [(0, .long 16), (2, .long 0), (4, .long 17)]) (st2 := [.long 0, .long 16]) jF_232_1 rfl rfl) ?_
        refine Eq.trans (jr_s (pc2 := 3) (lv2 := [(0, .long 16), (2, .long 0), (4, .long 17)]) (st2 := [.int 1]) jF_232_2 rfl rfl) ?_
        refine Eq.trans (jr_if0 jF_232_3 (by decide +kernel)) ?_
        refine Eq.trans (jr_s (pc2 := 7) (lv2 := [(0, .long 16), (2, .long 0), (4, .long 17)]) (st2 := [.long 16]) jF_232_6 rfl rfl) ?_
        refine Eq.trans (jr_s (pc2 := 9) (lv2 := [(0, .long 16), (2, .long 0), (4, .long 17)]) (st2 := [.long 17, .long 16]) jF_232_7 rfl rfl) ?_
        refine Eq.trans (jr_s (pc2 := 10) (lv2 := [(0, .long 16), (2, .long 0), (4, .long 17)]) (st2 := [.int (-1)]) jF_232_9 rfl rfl) ?_
        refine Eq.trans (jr_if0 jF_232_10 (by decide +kernel)) ?_
        refine Eq.trans (jr_s (pc2 := 14) (lv2 := [(0, .long 16), (2, .long 0), (4, .long 17)]) (st2 := [.int 1]) jF_232_13 rfl rfl) ?_
        refine Eq.trans (jr_s (pc2 := 18) (lv2 := [(0, .long 16), (2, .long 0), (4, .long 17)]) (st2 := [.int 1]) jF_232_14 rfl rfl) ?_
        exact jr_ri jF_232_18 rfl
      refine Eq.trans (jr_if0 jF_267_9 (by decide +kernel)) ?_
      refine Eq.trans (jr_s (pc2 := 13) (lv2 := [(0, .ref 117), (1, .int 16)]) (st2 := [.ref 117]) jF_267_12 rfl rfl) ?_
      refine Eq.trans (jr_gf (v := .ref 138) jF_267_13 (by decide +kernel)) ?_
      refine Eq.trans (jr_s (pc2 := 18) (lv2 := [(0, .ref 117), (1, .int 16)]) (st2 := [.int 18, .ref 138]) jF_267_16 rfl rfl) ?_
      refine Eq.trans (jr_s (pc2 := 19) (lv2 := [(0, .ref 117), (1, .int 16)]) (st2 := [.int 16, .int 18, .ref 138]) jF_267_18 rfl rfl) ?_
      refine Eq.trans (jr_s (pc2 := 20) (lv2 := [(0, .ref 117), (1, .int 16)]) (st2 := [.int 34, .ref 138]) jF_267_19 rfl rfl) ?_
      refine Eq.trans (jr_ldl (v := .long 0) jF_267_20 (by decide +kernel)) ?_
      exact jr_rl jF_267_21
    refine Eq.trans (jr_s (pc2 := 6) (lv2 := [(3, .long 0), (0, .ref 117), (1, .int 16), (2, .int a2)]) (st2 := []) jF_266_5 rfl rfl) ?_
    refine Eq.trans (jr_s (pc2 := 7) (lv2 := [(3, .long 0), (0, .ref 117), (1, .int 16), (2, .int a2)]) (st2 := [.long 0]) jF_266_6 rfl rfl) ?_
    refine Eq.trans (jr_s (pc2 := 8) (lv2 := [(3, .long 0), (0, .ref 117), (1, .int 16), (2, .int a2)]) (st2 := [.long 0, .long 0]) jF_266_7 rfl rfl) ?_
    refine Eq.trans (jr_s (pc2 := 9) (lv2 := [(3, .long 0), (0, .ref 117), (1, .int 16), (2, .int a2)]) (st2 := [.int 0]) jF_266_8 rfl rfl) ?_
    refine Eq.trans (jr_if1 jF_266_9 (by decide +kernel)) ?_
    refine Eq.trans (jr_s (pc2 := 25) (lv2 := [(3, .long 0), (0, .ref 117), (1, .int 16), (2, .int a2)]) (st2 := [.int (-1)]) jF_266_24 rfl rfl) ?_
    exact jr_ri jF_266_25 rfl
set_option maxHeartbeats 8000000 in
set_option maxRecDepth 100000 in
theorem pm_letter_L88 (a2 : Int32) (hl_a2 : 6 ≤ a2.toInt) (hh_a2 : a2.toInt ≤ 2147483647) : PM 92 266 [.int 17, .int a2] := by
  refine ⟨60000, 60000, (-1), jh2, jh2, ?_, ?_, by decide +kernel⟩
  · refine Eq.trans (jr_s (pc2 := 1) (lv2 := [(0, .ref 9), (1, .int 17), (2, .int a2)]) (st2 := [.ref 9]) jF_92_0 rfl rfl) ?_
    refine Eq.trans (jr_gf (v := .ref 20) jF_92_1 (by decide +kernel)) ?_
    refine Eq.trans (jr_s (pc2 := 5) (lv2 := [(0, .ref 9), (1, .int 17), (2, .int a2)]) (st2 := [.int 17, .ref 20]) jF_92_4 rfl rfl) ?_
    refine Eq.trans (jr_s (pc2 := 6) (lv2 := [(0, .ref 9), (1, .int 17), (2, .int a2)]) (st2 := [.int a2, .int 17, .ref 20]) jF_92_5 rfl rfl) ?_
    refine Eq.trans (jr_cV (a := 20) (as := [.int 17, .int a2]) (rest := []) (v := some (.int (-1))) (hp2 := jh2) (fr2 := 499) (lo2 := 19978) jF_92_6 (by decide +kernel) rfl (show j_cnd 500 20000 499 19978 3 _ _ = true from rfl) ?_) ?_
    · refine Eq.trans (jr_s (pc2 := 1) (lv2 := [(0, .ref 20), (1, .int 17), (2, .int a2)]) (st2 := [.int 17]) jF_93_0 rfl rfl) ?_
      refine Eq.trans (jr_if0 jF_93_1 (by decide +kernel)) ?_
      refine Eq.trans (jr_s (pc2 := 5) (lv2 := [(0, .ref 20), (1, .int 17), (2, .int a2)]) (st2 := [.int 17]) jF_93_4 rfl rfl) ?_
      refine Eq.trans (jr_s (pc2 := 6) (lv2 := [(0, .ref 20), (1, .int 17), (2, .int a2)]) (st2 := [.ref 20, .int 17]) jF_93_5 rfl rfl) ?_
      refine Eq.trans (jr_gf (v := .ref 21) jF_93_6 (by decide +kernel)) ?_
      refine Eq.trans (jr_al (v := 25) jF_93_9 (by decide +kernel)) ?_
      refine Eq.trans (jr_ic0 jF_93_10 (by decide +kernel)) ?_
      refine Eq.trans (jr_s (pc2 := 14) (lv2 := [(0, .ref 20), (1, .int 17), (2, .int a2)]) (st2 := [.int a2]) jF_93_13 rfl rfl) ?_
      refine Eq.trans (jr_if0 jF_93_14 (jk_lt_ge (show (0 : Int32).toInt ≤ (a2 : Int32).toInt by rw [show (0 : Int32).toInt = 0 from by decide]; omega))) ?_
      refine Eq.trans (jr_s (pc2 := 18) (lv2 := [(0, .ref 20), (1, .int 17), (2, .int a2)]) (st2 := [.int a2]) jF_93_17 rfl rfl) ?_
      refine Eq.trans (jr_s (pc2 := 20) (lv2 := [(0, .ref 20), (1, .int 17), (2, .int a2)]) (st2 := [.int 6, .int a2]) jF_93_18 rfl rfl) ?_
      refine Eq.trans (jr_ic1 jF_93_20 (jk_ge_ge (show (6 : Int32).toInt ≤ (a2 : Int32).toInt by rw [show (6 : Int32).toInt = 6 from by decide]; omega))) ?_
      refine Eq.trans (jr_s (pc2 := 33) (lv2 := [(0, .ref 20), (1, .int 17), (2, .int a2)]) (st2 := [.int (-1)]) jF_93_32 rfl rfl) ?_
      exact jr_ri jF_93_33 rfl
    exact jr_ri jF_92_9 rfl
  · refine Eq.trans (jr_s (pc2 := 1) (lv2 := [(0, .ref 117), (1, .int 17), (2, .int a2)]) (st2 := [.ref 117]) jF_266_0 rfl rfl) ?_
    refine Eq.trans (jr_s (pc2 := 2) (lv2 := [(0, .ref 117), (1, .int 17), (2, .int a2)]) (st2 := [.int 17, .ref 117]) jF_266_1 rfl rfl) ?_
    refine Eq.trans (jr_cV (a := 117) (as := [.int 17]) (rest := []) (v := some (.long 0)) (hp2 := jh2) (fr2 := 499) (lo2 := 19979) jF_266_2 (by decide +kernel) rfl (show j_cnd 500 20000 499 19979 2 _ _ = true from rfl) ?_) ?_
    · refine Eq.trans (jr_s (pc2 := 1) (lv2 := [(0, .ref 117), (1, .int 17)]) (st2 := [.int 17]) jF_267_0 rfl rfl) ?_
      refine Eq.trans (jr_s (pc2 := 2) (lv2 := [(0, .ref 117), (1, .int 17)]) (st2 := [.long 17]) jF_267_1 rfl rfl) ?_
      refine Eq.trans (jr_s (pc2 := 3) (lv2 := [(0, .ref 117), (1, .int 17)]) (st2 := [.long 0, .long 17]) jF_267_2 rfl rfl) ?_
      refine Eq.trans (jr_s (pc2 := 6) (lv2 := [(0, .ref 117), (1, .int 17)]) (st2 := [.long 17, .long 0, .long 17]) jF_267_3 rfl rfl) ?_
      refine Eq.trans (jr_cS (as := [.long 17, .long 0, .long 17]) (rest := []) (v := some (.int 1)) (hp2 := jh2) (fr2 := 498) (lo2 := 19954) jF_267_6 rfl (show j_cnd 499 19979 498 19954 6 _ _ = true from rfl) ?_) ?_
      · refine Eq.trans (jr_s (pc2 := 1) (lv2 := [(0, .long 17), (2, .long 0), (4, .long 17)]) (st2 := [.long 17]) jF_232_0 rfl rfl) ?_
        refine Eq.trans (jr_s (pc2 := 2) (lv2 := [(0, .long 17), (2, .long 0), (4, .long 17)]) (st2 := [.long 0, .long 17]) jF_232_1 rfl rfl) ?_
        refine Eq.trans (jr_s (pc2 := 3) (lv2 := [(0, .long 17), (2, .long 0), (4, .long 17)]) (st2 := [.int 1]) jF_232_2 rfl rfl) ?_
        refine Eq.trans (jr_if0 jF_232_3 (by decide +kernel)) ?_
        refine Eq.trans (jr_s (pc2 := 7) (lv2 := [(0, .long 17), (2, .long 0), (4, .long 17)]) (st2 := [.long 17]) jF_232_6 rfl rfl) ?_
        refine Eq.trans (jr_s (pc2 := 9) (lv2 := [(0, .long 17), (2, .long 0), (4, .long 17)]) (st2 := [.long 17, .long 17]) jF_232_7 rfl rfl) ?_
        refine Eq.trans (jr_s (pc2 := 10) (lv2 := [(0, .long 17), (2, .long 0), (4, .long 17)]) (st2 := [.int 0]) jF_232_9 rfl rfl) ?_
        refine Eq.trans (jr_if0 jF_232_10 (by decide +kernel)) ?_
        refine Eq.trans (jr_s (pc2 := 14) (lv2 := [(0, .long 17), (2, .long 0), (4, .long 17)]) (st2 := [.int 1]) jF_232_13 rfl rfl) ?_
        refine Eq.trans (jr_s (pc2 := 18) (lv2 := [(0, .long 17), (2, .long 0), (4, .long 17)]) (st2 := [.int 1]) jF_232_14 rfl rfl) ?_
        exact jr_ri jF_232_18 rfl
      refine Eq.trans (jr_if0 jF_267_9 (by decide +kernel)) ?_
      refine Eq.trans (jr_s (pc2 := 13) (lv2 := [(0, .ref 117), (1, .int 17)]) (st2 := [.ref 117]) jF_267_12 rfl rfl) ?_
      refine Eq.trans (jr_gf (v := .ref 138) jF_267_13 (by decide +kernel)) ?_
      refine Eq.trans (jr_s (pc2 := 18) (lv2 := [(0, .ref 117), (1, .int 17)]) (st2 := [.int 18, .ref 138]) jF_267_16 rfl rfl) ?_
      refine Eq.trans (jr_s (pc2 := 19) (lv2 := [(0, .ref 117), (1, .int 17)]) (st2 := [.int 17, .int 18, .ref 138]) jF_267_18 rfl rfl) ?_
      refine Eq.trans (jr_s (pc2 := 20) (lv2 := [(0, .ref 117), (1, .int 17)]) (st2 := [.int 35, .ref 138]) jF_267_19 rfl rfl) ?_
      refine Eq.trans (jr_ldl (v := .long 0) jF_267_20 (by decide +kernel)) ?_
      exact jr_rl jF_267_21
    refine Eq.trans (jr_s (pc2 := 6) (lv2 := [(3, .long 0), (0, .ref 117), (1, .int 17), (2, .int a2)]) (st2 := []) jF_266_5 rfl rfl) ?_
    refine Eq.trans (jr_s (pc2 := 7) (lv2 := [(3, .long 0), (0, .ref 117), (1, .int 17), (2, .int a2)]) (st2 := [.long 0]) jF_266_6 rfl rfl) ?_
    refine Eq.trans (jr_s (pc2 := 8) (lv2 := [(3, .long 0), (0, .ref 117), (1, .int 17), (2, .int a2)]) (st2 := [.long 0, .long 0]) jF_266_7 rfl rfl) ?_
    refine Eq.trans (jr_s (pc2 := 9) (lv2 := [(3, .long 0), (0, .ref 117), (1, .int 17), (2, .int a2)]) (st2 := [.int 0]) jF_266_8 rfl rfl) ?_
    refine Eq.trans (jr_if1 jF_266_9 (by decide +kernel)) ?_
    refine Eq.trans (jr_s (pc2 := 25) (lv2 := [(3, .long 0), (0, .ref 117), (1, .int 17), (2, .int a2)]) (st2 := [.int (-1)]) jF_266_24 rfl rfl) ?_
    exact jr_ri jF_266_25 rfl
