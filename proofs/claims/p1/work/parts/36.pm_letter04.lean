set_option maxHeartbeats 8000000 in
set_option maxRecDepth 100000 in
theorem pm_letter_L60 (a2 : Int32) (hl_a2 : 0 ≤ a2.toInt) (hh_a2 : a2.toInt ≤ 5) : PM 92 266 [.int 14, .int a2] := by
  refine ⟨60000, 60000, (-1), jh2, jh2, ?_, ?_, by decide +kernel⟩
  · refine Eq.trans (jr_s (pc2 := 1) (lv2 := [(0, .ref 9), (1, .int 14), (2, .int a2)]) (st2 := [.ref 9]) jF_92_0 rfl rfl) ?_
    refine Eq.trans (jr_gf (v := .ref 20) jF_92_1 (by decide +kernel)) ?_
    refine Eq.trans (jr_s (pc2 := 5) (lv2 := [(0, .ref 9), (1, .int 14), (2, .int a2)]) (st2 := [.int 14, .ref 20]) jF_92_4 rfl rfl) ?_
    refine Eq.trans (jr_s (pc2 := 6) (lv2 := [(0, .ref 9), (1, .int 14), (2, .int a2)]) (st2 := [.int a2, .int 14, .ref 20]) jF_92_5 rfl rfl) ?_
    refine Eq.trans (jr_cV (a := 20) (as := [.int 14, .int a2]) (rest := []) (v := some (.int (-1))) (hp2 := jh2) (fr2 := 499) (lo2 := 19978) jF_92_6 (by decide +kernel) rfl (show j_cnd 500 20000 499 19978 3 _ _ = true from rfl) ?_) ?_
    · refine Eq.trans (jr_s (pc2 := 1) (lv2 := [(0, .ref 20), (1, .int 14), (2, .int a2)]) (st2 := [.int 14]) jF_93_0 rfl rfl) ?_
      refine Eq.trans (jr_if0 jF_93_1 (by decide +kernel)) ?_
      refine Eq.trans (jr_s (pc2 := 5) (lv2 := [(0, .ref 20), (1, .int 14), (2, .int a2)]) (st2 := [.int 14]) jF_93_4 rfl rfl) ?_
      refine Eq.trans (jr_s (pc2 := 6) (lv2 := [(0, .ref 20), (1, .int 14), (2, .int a2)]) (st2 := [.ref 20, .int 14]) jF_93_5 rfl rfl) ?_
      refine Eq.trans (jr_gf (v := .ref 21) jF_93_6 (by decide +kernel)) ?_
      refine Eq.trans (jr_al (v := 25) jF_93_9 (by decide +kernel)) ?_
      refine Eq.trans (jr_ic0 jF_93_10 (by decide +kernel)) ?_
      refine Eq.trans (jr_s (pc2 := 14) (lv2 := [(0, .ref 20), (1, .int 14), (2, .int a2)]) (st2 := [.int a2]) jF_93_13 rfl rfl) ?_
      refine Eq.trans (jr_if0 jF_93_14 (jk_lt_ge (show (0 : Int32).toInt ≤ (a2 : Int32).toInt by rw [show (0 : Int32).toInt = 0 from by decide]; omega))) ?_
      refine Eq.trans (jr_s (pc2 := 18) (lv2 := [(0, .ref 20), (1, .int 14), (2, .int a2)]) (st2 := [.int a2]) jF_93_17 rfl rfl) ?_
      refine Eq.trans (jr_s (pc2 := 20) (lv2 := [(0, .ref 20), (1, .int 14), (2, .int a2)]) (st2 := [.int 6, .int a2]) jF_93_18 rfl rfl) ?_
      refine Eq.trans (jr_ic0 jF_93_20 (jk_ge_lt (show (a2 : Int32).toInt < (6 : Int32).toInt by rw [show (6 : Int32).toInt = 6 from by decide]; omega))) ?_
      refine Eq.trans (jr_s (pc2 := 24) (lv2 := [(0, .ref 20), (1, .int 14), (2, .int a2)]) (st2 := [.ref 20]) jF_93_23 rfl rfl) ?_
      refine Eq.trans (jr_gf (v := .ref 21) jF_93_24 (by decide +kernel)) ?_
      refine Eq.trans (jr_s (pc2 := 28) (lv2 := [(0, .ref 20), (1, .int 14), (2, .int a2)]) (st2 := [.int 14, .ref 21]) jF_93_27 rfl rfl) ?_
      refine Eq.trans (jr_ldi (v := .int 0) jF_93_28 (by decide +kernel)) ?_
      refine Eq.trans (jr_if0 jF_93_29 (by decide +kernel)) ?_
      refine Eq.trans (jr_s (pc2 := 33) (lv2 := [(0, .ref 20), (1, .int 14), (2, .int a2)]) (st2 := [.int (-1)]) jF_93_32 rfl rfl) ?_
      exact jr_ri jF_93_33 rfl
    exact jr_ri jF_92_9 rfl
  · refine Eq.trans (jr_s (pc2 := 1) (lv2 := [(0, .ref 117), (1, .int 14), (2, .int a2)]) (st2 := [.ref 117]) jF_266_0 rfl rfl) ?_
    refine Eq.trans (jr_s (pc2 := 2) (lv2 := [(0, .ref 117), (1, .int 14), (2, .int a2)]) (st2 := [.int 14, .ref 117]) jF_266_1 rfl rfl) ?_
    refine Eq.trans (jr_cV (a := 117) (as := [.int 14]) (rest := []) (v := some (.long 0)) (hp2 := jh2) (fr2 := 499) (lo2 := 19979) jF_266_2 (by decide +kernel) rfl (show j_cnd 500 20000 499 19979 2 _ _ = true from rfl) ?_) ?_
    · refine Eq.trans (jr_s (pc2 := 1) (lv2 := [(0, .ref 117), (1, .int 14)]) (st2 := [.int 14]) jF_267_0 rfl rfl) ?_
      refine Eq.trans (jr_s (pc2 := 2) (lv2 := [(0, .ref 117), (1, .int 14)]) (st2 := [.long 14]) jF_267_1 rfl rfl) ?_
      refine Eq.trans (jr_s (pc2 := 3) (lv2 := [(0, .ref 117), (1, .int 14)]) (st2 := [.long 0, .long 14]) jF_267_2 rfl rfl) ?_
      refine Eq.trans (jr_s (pc2 := 6) (lv2 := [(0, .ref 117), (1, .int 14)]) (st2 := [.long 17, .long 0, .long 14]) jF_267_3 rfl rfl) ?_
      refine Eq.trans (jr_cS (as := [.long 14, .long 0, .long 17]) (rest := []) (v := some (.int 1)) (hp2 := jh2) (fr2 := 498) (lo2 := 19954) jF_267_6 rfl (show j_cnd 499 19979 498 19954 6 _ _ = true from rfl) ?_) ?_
      · refine Eq.trans (jr_s (pc2 := 1) (lv2 := [(0, .long 14), (2, .long 0), (4, .long 17)]) (st2 := [.long 14]) jF_232_0 rfl rfl) ?_
        refine Eq.trans (jr_s (pc2 := 2) (lv2 := [(0, .long 14), (2, .long 0), (4, .long 17)]) (st2 := [.long 0, .long 14]) jF_232_1 rfl rfl) ?_
        refine Eq.trans (jr_s (pc2 := 3) (lv2 := [(0, .long 14), (2, .long 0), (4, .long 17)]) (st2 := [.int 1]) jF_232_2 rfl rfl) ?_
        refine Eq.trans (jr_if0 jF_232_3 (by decide +kernel)) ?_
        refine Eq.trans (jr_s (pc2 := 7) (lv2 := [(0, .long 14), (2, .long 0), (4, .long 17)]) (st2 := [.long 14]) jF_232_6 rfl rfl) ?_
        refine Eq.trans (jr_s (pc2 := 9) (lv2 := [(0, .long 14), (2, .long 0), (4, .long 17)]) (st2 := [.long 17, .long 14]) jF_232_7 rfl rfl) ?_
        refine Eq.trans (jr_s (pc2 := 10) (lv2 := [(0, .long 14), (2, .long 0), (4, .long 17)]) (st2 := [.int (-1)]) jF_232_9 rfl rfl) ?_
        refine Eq.trans (jr_if0 jF_232_10 (by decide +kernel)) ?_
        refine Eq.trans (jr_s (pc2 := 14) (lv2 := [(0, .long 14), (2, .long 0), (4, .long 17)]) (st2 := [.int 1]) jF_232_13 rfl rfl) ?_
        refine Eq.trans (jr_s (pc2 := 18) (lv2 := [(0, .long 14), (2, .long 0), (4, .long 17)]) (st2 := [.int 1]) jF_232_14 rfl rfl) ?_
        exact jr_ri jF_232_18 rfl
      refine Eq.trans (jr_if0 jF_267_9 (by decide +kernel)) ?_
      refine Eq.trans (jr_s (pc2 := 13) (lv2 := [(0, .ref 117), (1, .int 14)]) (st2 := [.ref 117]) jF_267_12 rfl rfl) ?_
      refine Eq.trans (jr_gf (v := .ref 138) jF_267_13 (by decide +kernel)) ?_
      refine Eq.trans (jr_s (pc2 := 18) (lv2 := [(0, .ref 117), (1, .int 14)]) (st2 := [.int 18, .ref 138]) jF_267_16 rfl rfl) ?_
      refine Eq.trans (jr_s (pc2 := 19) (lv2 := [(0, .ref 117), (1, .int 14)]) (st2 := [.int 14, .int 18, .ref 138]) jF_267_18 rfl rfl) ?_
      refine Eq.trans (jr_s (pc2 := 20) (lv2 := [(0, .ref 117), (1, .int 14)]) (st2 := [.int 32, .ref 138]) jF_267_19 rfl rfl) ?_
      refine Eq.trans (jr_ldl (v := .long 0) jF_267_20 (by decide +kernel)) ?_
      exact jr_rl jF_267_21
    refine Eq.trans (jr_s (pc2 := 6) (lv2 := [(3, .long 0), (0, .ref 117), (1, .int 14), (2, .int a2)]) (st2 := []) jF_266_5 rfl rfl) ?_
    refine Eq.trans (jr_s (pc2 := 7) (lv2 := [(3, .long 0), (0, .ref 117), (1, .int 14), (2, .int a2)]) (st2 := [.long 0]) jF_266_6 rfl rfl) ?_
    refine Eq.trans (jr_s (pc2 := 8) (lv2 := [(3, .long 0), (0, .ref 117), (1, .int 14), (2, .int a2)]) (st2 := [.long 0, .long 0]) jF_266_7 rfl rfl) ?_
    refine Eq.trans (jr_s (pc2 := 9) (lv2 := [(3, .long 0), (0, .ref 117), (1, .int 14), (2, .int a2)]) (st2 := [.int 0]) jF_266_8 rfl rfl) ?_
    refine Eq.trans (jr_if1 jF_266_9 (by decide +kernel)) ?_
    refine Eq.trans (jr_s (pc2 := 25) (lv2 := [(3, .long 0), (0, .ref 117), (1, .int 14), (2, .int a2)]) (st2 := [.int (-1)]) jF_266_24 rfl rfl) ?_
    exact jr_ri jF_266_25 rfl
set_option maxHeartbeats 8000000 in
set_option maxRecDepth 100000 in
theorem pm_letter_L61 (a2 : Int32) (hl_a2 : 0 ≤ a2.toInt) (hh_a2 : a2.toInt ≤ 5) : PM 92 266 [.int 15, .int a2] := by
  refine ⟨60000, 60000, (-1), jh2, jh2, ?_, ?_, by decide +kernel⟩
  · refine Eq.trans (jr_s (pc2 := 1) (lv2 := [(0, .ref 9), (1, .int 15), (2, .int a2)]) (st2 := [.ref 9]) jF_92_0 rfl rfl) ?_
    refine Eq.trans (jr_gf (v := .ref 20) jF_92_1 (by decide +kernel)) ?_
    refine Eq.trans (jr_s (pc2 := 5) (lv2 := [(0, .ref 9), (1, .int 15), (2, .int a2)]) (st2 := [.int 15, .ref 20]) jF_92_4 rfl rfl) ?_
    refine Eq.trans (jr_s (pc2 := 6) (lv2 := [(0, .ref 9), (1, .int 15), (2, .int a2)]) (st2 := [.int a2, .int 15, .ref 20]) jF_92_5 rfl rfl) ?_
    refine Eq.trans (jr_cV (a := 20) (as := [.int 15, .int a2]) (rest := []) (v := some (.int (-1))) (hp2 := jh2) (fr2 := 499) (lo2 := 19978) jF_92_6 (by decide +kernel) rfl (show j_cnd 500 20000 499 19978 3 _ _ = true from rfl) ?_) ?_
    · refine Eq.trans (jr_s (pc2 := 1) (lv2 := [(0, .ref 20), (1, .int 15), (2, .int a2)]) (st2 := [.int 15]) jF_93_0 rfl rfl) ?_
      refine Eq.trans (jr_if0 jF_93_1 (by decide +kernel)) ?_
      refine Eq.trans (jr_s (pc2 := 5) (lv2 := [(0, .ref 20), (1, .int 15), (2, .int a2)]) (st2 := [.int 15]) jF_93_4 rfl rfl) ?_
      refine Eq.trans (jr_s (pc2 := 6) (lv2 := [(0, .ref 20), (1, .int 15), (2, .int a2)]) (st2 := [.ref 20, .int 15]) jF_93_5 rfl rfl) ?_
      refine Eq.trans (jr_gf (v := .ref 21) jF_93_6 (by decide +kernel)) ?_
      refine Eq.trans (jr_al (v := 25) jF_93_9 (by decide +kernel)) ?_
      refine Eq.trans (jr_ic0 jF_93_10 (by decide +kernel)) ?_
      refine Eq.trans (jr_s (pc2 := 14) (lv2 := [(0, .ref 20), (1, .int 15), (2, .int a2)]) (st2 := [.int a2]) jF_93_13 rfl rfl) ?_
      refine Eq.trans (jr_if0 jF_93_14 (jk_lt_ge (show (0 : Int32).toInt ≤ (a2 : Int32).toInt by rw [show (0 : Int32).toInt = 0 from by decide]; omega))) ?_
      refine Eq.trans (jr_s (pc2 := 18) (lv2 := [(0, .ref 20), (1, .int 15), (2, .int a2)]) (st2 := [.int a2]) jF_93_17 rfl rfl) ?_
      refine Eq.trans (jr_s (pc2 := 20) (lv2 := [(0, .ref 20), (1, .int 15), (2, .int a2)]) (st2 := [.int 6, .int a2]) jF_93_18 rfl rfl) ?_
      refine Eq.trans (jr_ic0 jF_93_20 (jk_ge_lt (show (a2 : Int32).toInt < (6 : Int32).toInt by rw [show (6 : Int32).toInt = 6 from by decide]; omega))) ?_
      refine Eq.trans (jr_s (pc2 := 24) (lv2 := [(0, .ref 20), (1, .int 15), (2, .int a2)]) (st2 := [.ref 20]) jF_93_23 rfl rfl) ?_
      refine Eq.trans (jr_gf (v := .ref 21) jF_93_24 (by decide +kernel)) ?_
      refine Eq.trans (jr_s (pc2 := 28) (lv2 := [(0, .ref 20), (1, .int 15), (2, .int a2)]) (st2 := [.int 15, .ref 21]) jF_93_27 rfl rfl) ?_
      refine Eq.trans (jr_ldi (v := .int 0) jF_93_28 (by decide +kernel)) ?_
      refine Eq.trans (jr_if0 jF_93_29 (by decide +kernel)) ?_
      refine Eq.trans (jr_s (pc2 := 33) (lv2 := [(0, .ref 20), (1, .int 15), (2, .int a2)]) (st2 := [.int (-1)]) jF_93_32 rfl rfl) ?_
      exact jr_ri jF_93_33 rfl
    exact jr_ri jF_92_9 rfl
  · refine Eq.trans (jr_s (pc2 := 1) (lv2 := [(0, .ref 117), (1, .int 15), (2, .int a2)]) (st2 := [.ref 117]) jF_266_0 rfl rfl) ?_
    refine Eq.trans (jr_s (pc2 := 2) (lv2 := [(0, .ref 117), (1, .int 15), (2, .int a2)]) (st2 := [.int 15, .ref 117]) jF_266_1 rfl rfl) ?_
    refine Eq.trans (jr_cV (a := 117) (as := [.int 15]) (rest := []) (v := some (.long 0)) (hp2 := jh2) (fr2 := 499) (lo2 := 19979) jF_266_2 (by decide +kernel) rfl (show j_cnd 500 20000 499 19979 2 _ _ = true from rfl) ?_) ?_
    · refine Eq.trans (jr_s (pc2 := 1) (lv2 := [(0, .ref 117), (1, .int 15)]) (st2 := [.int 15]) jF_267_0 rfl rfl) ?_
      refine Eq.trans (jr_s (pc2 := 2) (lv2 := [(0, .ref 117), (1, .int 15)]) (st2 := [.long 15]) jF_267_1 rfl rfl) ?_
      refine Eq.trans (jr_s (pc2 := 3) (lv2 := [(0, .ref 117), (1, .int 15)]) (st2 := [.long 0, .long 15]) jF_267_2 rfl rfl) ?_
      refine Eq.trans (jr_s (pc2 := 6) (lv2 := [(0, .ref 117), (1, .int 15)]) (st2 := [.long 17, .long 0, .long 15]) jF_267_3 rfl rfl) ?_
      refine Eq.trans (jr_cS (as := [.long 15, .long 0, .long 17]) (rest := []) (v := some (.int 1)) (hp2 := jh2) (fr2 := 498) (lo2 := 19954) jF_267_6 rfl (show j_cnd 499 19979 498 19954 6 _ _ = true from rfl) ?_) ?_
      · refine Eq.trans (jr_s (pc2 := 1) (lv2 := [(0, .long 15), (2, .long 0), (4, .long 17)]) (st2 := [.long 15]) jF_232_0 rfl rfl) ?_
        refine Eq.trans (jr_s (pc2 := 2) (lv2 := [(0, .long 15), (2, .long 0), (4, .long 17)]) (st2 := [.long 0, .long 15]) jF_232_1 rfl rfl) ?_
        refine Eq.trans (jr_s (pc2 := 3) (lv2 := [(0, .long 15), (2, .long 0), (4, .long 17)]) (st2 := [.int 1]) jF_232_2 rfl rfl) ?_
        refine Eq.trans (jr_if0 jF_232_3 (by decide +kernel)) ?_
        refine Eq.trans (jr_s (pc2 := 7) (lv2 := [(0, .long 15), (2, .long 0), (4, .long 17)]) (st2 := [.long 15]) jF_232_6 rfl rfl) ?_
        refine Eq.trans (jr_s (pc2 := 9) (lv2 := [(0, .long 15), (2, .long 0), (4, .long 17)]) (st2 := [.long 17, .long 15]) jF_232_7 rfl rfl) ?_
        refine Eq.trans (jr_s (pc2 := 10) (lv2 := [(0, .long 15), (2, .long 0), (4, .long 17)]) (st2 := [.int (-1)]) jF_232_9 rfl rfl) ?_
        refine Eq.trans (jr_if0 jF_232_10 (by decide +kernel)) ?_
        refine Eq.trans (jr_s (pc2 := 14) (lv2 := [(0, .long 15), (2, .long 0), (4, .long 17)]) (st2 := [.int 1]) jF_232_13 rfl rfl) ?_
        refine Eq.trans (jr_s (pc2 := 18) (lv2 := [(0, .long 15), (2, .long 0), (4, .long 17)]) (st2 := [.int 1]) jF_232_14 rfl rfl) ?_
        exact jr_ri jF_232_18 rfl
      refine Eq.trans (jr_if0 jF_267_9 (by decide +kernel)) ?_
      refine Eq.trans (jr_s (pc2 := 13) (lv2 := [(0, .ref 117), (1, .int 15)]) (st2 := [.ref 117]) jF_267_12 rfl rfl) ?_
      refine Eq.trans (jr_gf (v := .ref 138) jF_267_13 (by decide +kernel)) ?_
      refine Eq.trans (jr_s (pc2 := 18) (lv2 := [(0, .ref 117), (1, .int 15)]) (st2 := [.int 18, .ref 138]) jF_267_16 rfl rfl) ?_
      refine Eq.trans (jr_s (pc2 := 19) (lv2 := [(0, .ref 117), (1, .int 15)]) (st2 := [.int 15, .int 18, .ref 138]) jF_267_18 rfl rfl) ?_
      refine Eq.trans (jr_s (pc2 := 20) (lv2 := [(0, .ref 117), (1, .int 15)]) (st2 := [.int 33, .ref 138]) jF_267_19 rfl rfl) ?_
      refine Eq.trans (jr_ldl (v := .long 0) jF_267_20 (by decide +kernel)) ?_
      exact jr_rl jF_267_21
    refine Eq.trans (jr_s (pc2 := 6) (lv2 := [(3, .long 0), (0, .ref 117), (1, .int 15), (2, .int a2)]) (st2 := []) jF_266_5 rfl rfl) ?_
    refine Eq.trans (jr_s (pc2 := 7) (lv2 := [(3, .long 0), (0, .ref 117), (1, .int 15), (2, .int a2)]) (st2 := [.long 0]) jF_266_6 rfl rfl) ?_
    refine Eq.trans (jr_s (pc2 := 8) (lv2 := [(3, .long 0), (0, .ref 117), (1, .int 15), (2, .int a2)]) (st2 := [.long 0, .long 0]) jF_266_7 rfl rfl) ?_
    refine Eq.trans (jr_s (pc2 := 9) (lv2 := [(3, .long 0), (0, .ref 117), (1, .int 15), (2, .int a2)]) (st2 := [.int 0]) jF_266_8 rfl rfl) ?_
    refine Eq.trans (jr_if1 jF_266_9 (by decide +kernel)) ?_
    refine Eq.trans (jr_s (pc2 := 25) (lv2 := [(3, .long 0), (0, .ref 117), (1, .int 15), (2, .int a2)]) (st2 := [.int (-1)]) jF_266_24 rfl rfl) ?_
    exact jr_ri jF_266_25 rfl
set_option maxHeartbeats 8000000 in
set_option maxRecDepth 100000 in
theorem pm_letter_L62 (a2 : Int32) (hl_a2 : 0 ≤ a2.toInt) (hh_a2 : a2.toInt ≤ 5) : PM 92 266 [.int 16, .int a2] := by
  refine ⟨60000, 60000, (-1), jh2, jh2, ?_, ?_, by decide +kernel⟩
  · refine Eq.trans (jr_s (pc2 := 1) (lv2 := [(0, .ref 9), (1, .int 16), (2, .int a2)]) (st2 := [.ref 9]) jF_92_0 rfl rfl) ?_
    refine Eq.trans (jr_gf (v := .ref 20) jF_92_1 (by decide +kernel)) ?_
    refine Eq.trans (jr_s (pc2 := 5) (lv2 := [(0, .ref 9), (1, .int 16), (2, .int a2)]) (st2 := [.int 16, .ref 20]) jF_92_4 rfl rfl) ?_
    refine Eq.trans (jr_s (pc2 := 6) (lv2 := [(0, .ref 9), (1, .int 16), (2, .int a2)]) (st2 := [.int a2, .int 16, .ref 20]) jF_92_5 rfl rfl) ?_
    refine Eq.trans (jr_cV (a := 20) (as := [.int 16, .int a2]) (rest := []) (v := some (.int (-1))) (hp2 := jh2) (fr2 := 499) (lo2 := 19978) jF_92_6 (by decide +kernel) rfl (show j_cnd 500 20000 499 19978 3 _ _ = true from rfl) ?_) ?_
    · refine Eq.trans (jr_s (pc2 := 1) (lv2 := [(0, .ref 20), (1, .int 16), (2, .int a2)]) (st2 := [.int 16]) jF_93_0 rfl rfl) ?_
      refine Eq.trans (jr_if0 jF_93_1 (by decide +kernel)) ?_
      refine Eq.trans (jr_s (pc2 := 5) (lv2 := [(0, .ref 20), (1, .int 16), (2, .int a2)]) (st2 := [.int 16]) jF_93_4 rfl rfl) ?_
      refine Eq.trans (jr_s (pc2 := 6) (lv2 := [(0, .ref 20), (1, .int 16), (2, .int a2)]) (st2 := [.ref 20, .int 16]) jF_93_5 rfl rfl) ?_
      refine Eq.trans (jr_gf (v := .ref 21) jF_93_6 (by decide +kernel)) ?_
      refine Eq.trans (jr_al (v := 25) jF_93_9 (by decide +kernel)) ?_
      refine Eq.trans (jr_ic0 jF_93_10 (by decide +kernel)) ?_
      refine Eq.trans (jr_s (pc2 := 14) (lv2 := [(0, .ref 20), (1, .int 16), (2, .int a2)]) (st2 := [.int a2]) jF_93_13 rfl rfl) ?_
      refine Eq.trans (jr_if0 jF_93_14 (jk_lt_ge (show (0 : Int32).toInt ≤ (a2 : Int32).toInt by rw [show (0 : Int32).toInt = 0 from by decide]; omega))) ?_
      refine Eq.trans (jr_s (pc2 := 18) (lv2 := [(0, .ref 20), (1, .int 16), (2, .int a2)]) (st2 := [.int a2]) jF_93_17 rfl rfl) ?_
      refine Eq.trans (jr_s (pc2 := 20) (lv2 := [(0, .ref 20), (1, .int 16), (2, .int a2)]) (st2 := [.int 6, .int a2]) jF_93_18 rfl rfl) ?_
      refine Eq.trans (jr_ic0 jF_93_20 (jk_ge_lt (show (a2 : Int32).toInt < (6 : Int32).toInt by rw [show (6 : Int32).toInt = 6 from by decide]; omega))) ?_
      refine Eq.trans (jr_s (pc2 := 24) (lv2 := [(0, .ref 20), (1, .int 16), (2, .int a2)]) (st2 := [.ref 20]) jF_93_23 rfl rfl) ?_
      refine Eq.trans (jr_gf (v := .ref 21) jF_93_24 (by decide +kernel)) ?_
      refine Eq.trans (jr_s (pc2 := 28) (lv2 := [(0, .ref 20), (1, .int 16), (2, .int a2)]) (st2 := [.int 16, .ref 21]) jF_93_27 rfl rfl) ?_
      refine Eq.trans (jr_ldi (v := .int 0) jF_93_28 (by decide +kernel)) ?_
      refine Eq.trans (jr_if0 jF_93_29 (by decide +kernel)) ?_
      refine Eq.trans (jr_s (pc2 := 33) (lv2 := [(0, .ref 20), (1, .int 16), (2, .int a2)]) (st2 := [.int (-1)]) jF_93_32 rfl rfl) ?_
      exact jr_ri jF_93_33 rfl
    exact jr_ri jF_92_9 rfl
  · refine Eq.trans (jr_s (pc2 := 1) (lv2 := [(0, .ref 117), (1, .int 16), (2, .int a2)]) (st2 := [.ref 117]) jF_266_0 rfl rfl) ?_
    refine Eq.trans (jr_s (pc2 := 2) (lv2 := [(0, .ref 117), (1, .int 16), (2, .int a2)]) (st2 := [.int 16, .ref 117]) jF_266_1 rfl rfl) ?_
    refine Eq.trans (jr_cV (a := 117) (as := [.int 16]) (rest := []) (v := some (.long 0)) (hp2 := jh2) (fr2 := 499) (lo2 := 19979) jF_266_2 (by decide +kernel) rfl (show j_cnd 500 20000 499 19979 2 _ _ = true from rfl) ?_) ?_
    · refine Eq.trans (jr_s (pc2 := 1) (lv2 := [(0, .ref 117), (1, .int 16)]) (st2 := [.int 16]) jF_267_0 rfl rfl) ?_
      refine Eq.trans (jr_s (pc2 := 2) (lv2 := [(0, .ref 117), (1, .int 16)]) (st2 := [.long 16]) jF_267_1 rfl rfl) ?_
      refine Eq.trans (jr_s (pc2 := 3) (lv2 := [(0, .ref 117), (1, .int 16)]) (st2 := [.long 0, .long 16]) jF_267_2 rfl rfl) ?_
      refine Eq.trans (jr_s (pc2 := 6) (lv2 := [(0, .ref 117), (1, .int 16)]) (st2 := [.long 17, .long 0, .long 16]) jF_267_3 rfl rfl) ?_
      refine Eq.trans (jr_cS (as := [.long 16, .long 0, .long 17]) (rest := []) (v := some (.int 1)) (hp2 := jh2) (fr2 := 498) (lo2 := 19954) jF_267_6 rfl (show j_cnd 499 19979 498 19954 6 _ _ = true from rfl) ?_) ?_
      · refine Eq.trans (jr_s (pc2 := 1) (lv2 := [(0, .long 16), (2, .long 0), (4, .long 17)]) (st2 := [.long 16]) jF_232_0 rfl rfl) ?_
        refine Eq.trans (jr_s (pc2 := 2) (lv2 := [(0, .long 16), (2, .long 0), (4, .long 17)]) (st2 := [.long 0, .long 16]) jF_232_1 rfl rfl) ?_
        refine Eq.trans (jr_s (pc2 := 3) (lv2 := [(0, .long 16), (2, .long 0), (4, .long 17)]) (st2 := [.int 1]) jF_232_2 rfl rfl) ?_
        refine Eq.trans (jr_if0 jF_232_3 (by decide +kernel)) ?_
        refine Eq.trans (jr_s (pc2 := 7) (lv2 := [(0, .long 16), (2, .long 0), (4, .long 17)]) (st2 := [.long 16]) jF_232_6 rfl rfl) ?_
        refine Eq.trans (jr_s (pc2 := 9) (lv2 := [(0, .long 16), (2, .long 0), (4, .long 17)]) (st2 := [.long 17, .long 16]) jF_232_7 rfl rfl) ?_
        refine Eq.trans (jr_s (pc2 := 10) (lv2 := [(0, .long 16), (2, .long 0), (4, .long 17)]) (st2 := [.int (-1)]) jF_232_9 rfl rfl) ?_
        refine Eq.trans (jr_if0 jF_232_10 (by decide +kernel)) ?_
        refine Eq.trans (jr_s (pc2 := 14) (lv2 := [(0, .long 16), (2, .long 0), (4, .long 17)]) (st2 := [.int 1]) jF_232_13 rfl rfl) ?_
        refine Eq.trans (jr_s (pc2 := 18) (lv2 := [(0, .long 16), (2, .long 0), (4, .long 17)]) (st2 := [.int 1]) jF_232_14 rfl rfl) ?_
        exact jr_ri jF_232_18 rfl
      refine Eq.trans (jr_if0 jF_267_9 (by decide +kernel)) ?_
      refine Eq.trans (jr_s (pc2 := 13) (lv2 := [(0, .ref 117), (1, .int 16)]) (st2 := [.ref 117]) jF_267_12 rfl rfl) ?_
      refine Eq.trans (jr_gf (v := .ref 138) jF_267_13 (by decide +kernel)) ?_
      refine Eq.trans (jr_s (pc2 := 18) (lv2 := [(0, .ref 117), (1, .int 16)]) (st2 := [.int 18, .ref 138]) jF_267_16 rfl rfl) ?_
      refine Eq.trans (jr_s (pc2 := 19) (lv2 := [(0, .ref 117), (1, .int 16)]) (st2 := [.int 16, .int 18, .ref 138]) jF_267_18 rfl rfl) ?_
      refine Eq.trans (jr_s (pc2 := 20) (lv2 := [(0, .ref 117), (1, .int 16)]) (st2 := [.int 34, .ref 138]) jF_267_19 rfl rfl) ?_
      refine Eq.trans (jr_ldl (v := .long 0) jF_267_20 (by decide +kernel)) ?_
      exact jr_rl jF_267_21
    refine Eq.trans (jr_s (pc2 := 6) (lv2 := [(3, .long 0), (0, .ref 117), (1, .int 16), (2, .int a2)]) (st2 := []) jF_266_5 rfl rfl) ?_
    refine Eq.trans (jr_s (pc2 := 7) (lv2 := [(3, .long 0), (0, .ref 117), (1, .int 16), (2, .int a2)]) (st2 := [.long 0]) jF_266_6 rfl rfl) ?_
    refine Eq.trans (jr_s (pc2 := 8) (lv2 := [(3, .long 0), (0, .ref 117), (1, .int 16), (2, .int a2)]) (st2 := [.long 0, .long 0]) jF_266_7 rfl rfl) ?_
    refine Eq.trans (jr_s (pc2 := 9) (lv2 := [(3, .long 0), (0, .ref 117), (1, .int 16), (2, .int a2)]) (st2 := [.int 0]) jF_266_8 rfl rfl) ?_
    refine Eq.trans (jr_if1 jF_266_9 (by decide +kernel)) ?_
    refine Eq.trans (jr_s (pc2 := 25) (lv2 := [(3, .long 0), (0, .ref 117), (1, .int 16), (2, .int a2)]) (st2 := [.int (-1)]) jF_266_24 rfl rfl) ?_
    exact jr_ri jF_266_25 rfl
set_option maxHeartbeats 8000000 in
set_option maxRecDepth 100000 in
theorem pm_letter_L63 (a2 : Int32) (hl_a2 : 0 ≤ a2.toInt) (hh_a2 : a2.toInt ≤ 5) : PM 92 266 [.int 17, .int a2] := by
  refine ⟨60000, 60000, (-1), jh2, jh2, ?_, ?_, by decide +kernel⟩
  · refine Eq.trans (jr_s (pc2 := 1) (lv2 := [(0, .ref 9), (1, .int 17), (2, .int a2)]) (st2 := [.ref 9]) jF_92_0 rfl rfl) ?_
    refine Eq.trans (jr_gf (v := .ref 20) jF_92_1 (by decide +kernel)) ?_
    refine Eq.trans (jr_s (pc2 := 5) (lv2 := [(0, .ref 9), (1, .int 17), (2, .int a2)]) (st2 := [.int 17, .ref 20]) jF_92_4 rfl rfl) ?_
    refine Eq.trans (jr_s (pc2 := 6) (lv2 := [(0, .ref 9), (1, .int 17), (2, .int a2)]) (st2 := [.int a2, .int 17, .ref 20]) jF_92_5 rfl rfl) ?_
    refine Eq.trans (jr_cV (a := 20) (as := [.int 17, .int a2]) (rest := []) (v := some (.int (-1))) (hp2 := jh2) (fr2 := 499) (lo2 := 19978) jF_92_6 (by decide +kernel) rfl (show j_cnd 500 20000 499 19978 3 _ _ = true from rfl) ?_) ?_
    · refine Eq.trans (jr_s (pc2 := 1) (lv2 := [(0, .ref 20), (1, .int 17), (2, .int a2)]) (st2 := [.int 17]) jF_93_0 rfl rfl) ?_
      refine Eq.trans (jr_if0 jF_93_1 (by decide +kernel)) ?_
      refine Eq.trans (jr_s (pc2 := 5) (lv2 := [(0, .ref 20), (1, .int 17), (2, .int a2)]) (st2 := [.int 17]) jF_93_4 rfl rfl) ?_
      refine Eq.trans (jr_s (pc2 := 6) (lv2 := [(0, .ref 20), (1, .int 17), (2, .int a2)]) (st2 := [.ref 20, .int 17]) jF_93_5 rfl rfl) ?_
      refine Eq.trans (jr_gf (v := .ref 21) jF_93_6 (by decide +kernel)) ?_
      refine Eq.trans (jr_al (v := 25) jF_93_9 (by decide +kernel)) ?_
      refine Eq.trans (jr_ic0 jF_93_10 (by decide +kernel)) ?_
      refine Eq.trans (jr_s (pc2 := 14) (lv2 := [(0, .ref 20), (1, .int 17), (2, .int a2)]) (st2 := [.int a2]) jF_93_13 rfl rfl) ?_
      refine Eq.trans (jr_if0 jF_93_14 (jk_lt_ge (show (0 : Int32).toInt ≤ (a2 : Int32).toInt by rw [show (0 : Int32).toInt = 0 from by decide]; omega))) ?_
      refine Eq.trans (jr_s (pc2 := 18) (lv2 := [(0, .ref 20), (1, .int 17), (2, .int a2)]) (st2 := [.int a2]) jF_93_17 rfl rfl) ?_
      refine Eq.trans (jr_s (pc2 := 20) (lv2 := [(0, .ref 20), (1, .int 17), (2, .int a2)]) (st2 := [.int 6, .int a2]) jF_93_18 rfl rfl) ?_
      refine Eq.trans (jr_ic0 jF_93_20 (jk_ge_lt (show (a2 : Int32).toInt < (6 : Int32).toInt by rw [show (6 : Int32).toInt = 6 from by decide]; omega))) ?_
      refine Eq.trans (jr_s (pc2 := 24) (lv2 := [(0, .ref 20), (1, .int 17), (2, .int a2)]) (st2 := [.ref 20]) jF_93_23 rfl rfl) ?_
      refine Eq.trans (jr_gf (v := .ref 21) jF_93_24 (by decide +kernel)) ?_
      refine Eq.trans (jr_s (pc2 := 28) (lv2 := [(0, .ref 20), (1, .int 17), (2, .int a2)]) (st2 := [.int 17, .ref 21]) jF_93_27 rfl rfl) ?_
      refine Eq.trans (jr_ldi (v := .int 0) jF_93_28 (by decide +kernel)) ?_
      refine Eq.trans (jr_if0 jF_93_29 (by decide +kernel)) ?_
      refine Eq.trans (jr_s (pc2 := 33) (lv2 := [(0, .ref 20), (1, .int 17), (2, .int a2)]) (st2 := [.int (-1)]) jF_93_32 rfl rfl) ?_
      exact jr_ri jF_93_33 rfl
    exact jr_ri jF_92_9 rfl
  · refine Eq.trans (jr_s (pc2 := 1) (lv2 := [(0, .ref 117), (1, .int 17), (2, .int a2)]) (st2 := [.ref 117]) jF_266_0 rfl rfl) ?_
    refine Eq.trans (jr_s (pc2 := 2) (lv2 := [(0, .ref 117), (1, .int 17), (2, .int a2)]) (st2 := [.int 17, .ref 117]) jF_266_1 rfl rfl) ?_
    refine Eq.trans (jr_cV (a := 117) (as := [.int 17]) (rest := []) (v := some (.long 0)) (hp2 := jh2) (fr2 := 499) (lo2 := 19979) jF_266_2 (by decide +kernel) rfl (show j_cnd 500 20000 499 19979 2 _ _ = true from rfl) ?_) ?_
    · refine Eq.trans (jr_s (pc2 := 1) (lv2 := [(0, .ref 117), (1, .int 17)]) (st2 := [.int 17]) jF_267_0 rfl rfl) ?_
      refine Eq.trans (jr_s (pc2 := 2) (lv2 := [(0, .ref 117), (1, .int 17)]) (st2 := [.long 17]) jF_267_1 rfl rfl) ?_
      refine Eq.trans (jr_s (pc2 := 3) (lv2 := [(0, .ref 117), (1, .int 17)]) (st2 := [.long 0, .long 17]) jF_267_2 rfl rfl) ?_
      refine Eq.trans (jr_s (pc2 := 6) (lv2 := [(0, .ref 117), (1, .int 17)]) (st2 := [.long 17, .long 0, .long 17]) jF_267_3 rfl rfl) ?_
      refine Eq.trans (jr_cS (as := [.long 17, .long 0, .long 17]) (rest := []) (v := some (.int 1)) (hp2 := jh2) (fr2 := 498) (lo2 := 19954) jF_267_6 rfl (show j_cnd 499 19979 498 19954 6 _ _ = true from rfl) ?_) ?_
      · refine Eq.trans (jr_s (pc2 := 1) (lv2 := [(0, .long 17), (2, .long 0), (4, .long 17)]) (st2 := [.long 17]) jF_232_0 rfl rfl) ?_
        refine Eq.trans (jr_s (pc2 := 2) (lv2 := [(0, .long 17), (2, .long 0), (4, .long 17)]) (st2 := [.long 0, .long 17]) jF_232_1 rfl rfl) ?_
        refine Eq.trans (jr_s (pc2 := 3) (lv2 := [(0, .long 17), (2, .long 0), (4, .long 17)]) (st2 := [.int 1]) jF_232_2 rfl rfl) ?_
        refine Eq.trans (jr_if0 jF_232_3 (by decide +kernel)) ?_
        refine Eq.trans (jr_s (pc2 := 7) (lv2 := [(0, .long 17), (2, .long 0), (4, .long 17)]) (st2 := [.long 17]) jF_232_6 rfl rfl) ?_
        refine Eq.trans (jr_s (pc2 := 9) (lv2 := [(0, .long 17), (2, .long 0), (4, .long 17)]) (st2 := [.long 17, .long 17]) jF_232_7 rfl rfl) ?_
        refine Eq.trans (jr_s (pc2 := 10) (lv2 := [(0, .long 17), (2, .long 0), (4, .long 17)]) (st2 := [.int 0]) jF_232_9 rfl rfl) ?_
        refine Eq.trans (jr_if0 jF_232_10 (by decide +kernel)) ?_
        refine Eq.trans (jr_s (pc2 := 14) (lv2 := [(0, .long 17), (2, .long 0), (4, .long 17)]) (st2 := [.int 1]) jF_232_13 rfl rfl) ?_
        refine Eq.trans (jr_s (pc2 := 18) (lv2 := [(0, .long 17), (2, .long 0), (4, .long 17)]) (st2 := [.int 1]) jF_232_14 rfl rfl) ?_
        exact jr_ri jF_232_18 rfl
      refine Eq.trans (jr_if0 jF_267_9 (by decide +kernel)) ?_
      refine Eq.trans (jr_s (pc2 := 13) (lv2 := [(0, .ref 117), (1, .int 17)]) (st2 := [.ref 117]) jF_267_12 rfl rfl) ?_
      refine Eq.trans (jr_gf (v := .ref 138) jF_267_13 (by decide +kernel)) ?_
      refine Eq.trans (jr_s (pc2 := 18) (lv2 := [(0, .ref 117), (1, .int 17)]) (st2 := [.int 18, .ref 138]) jF_267_16 rfl rfl) ?_
      refine Eq.trans (jr_s (pc2 := 19) (lv2 := [(0, .ref 117), (1, .int 17)]) (st2 := [.int 17, .int 18, .ref 138]) jF_267_18 rfl rfl) ?_
      refine Eq.trans (jr_s (pc2 := 20) (lv2 := [(0, .ref 117), (1, .int 17)]) (st2 := [.int 35, .ref 138]) jF_267_19 rfl rfl) ?_
      refine Eq.trans (jr_ldl (v := .long 0) jF_267_20 (by decide +kernel)) ?_
      exact jr_rl jF_267_21
    refine Eq.trans (jr_s (pc2 := 6) (lv2 := [(3, .long 0), (0, .ref 117), (1, .int 17), (2, .int a2)]) (st2 := []) jF_266_5 rfl rfl) ?_
    refine Eq.trans (jr_s (pc2 := 7) (lv2 := [(3, .long 0), (0, .ref 117), (1, .int 17), (2, .int a2)]) (st2 := [.long 0]) jF_266_6 rfl rfl) ?_
    refine Eq.trans (jr_s (pc2 := 8) (lv2 := [(3, .long 0), (0, .ref 117), (1, .int 17), (2, .int a2)]) (st2 := [.long 0, .long 0]) jF_266_7 rfl rfl) ?_
    refine Eq.trans (jr_s (pc2 := 9) (lv2 := [(3, .long 0), (0, .ref 117), (1, .int 17), (2, .int a2)]) (st2 := [.int 0]) jF_266_8 rfl rfl) ?_
    refine Eq.trans (jr_if1 jF_266_9 (by decide +kernel)) ?_
    refine Eq.trans (jr_s (pc2 := 25) (lv2 := [(3, .long 0), (0, .ref 117), (1, .int 17), (2, .int a2)]) (st2 := [.int (-1)]) jF_266_24 rfl rfl) ?_
    exact jr_ri jF_266_25 rfl
set_option maxHeartbeats 8000000 in
set_option maxRecDepth 100000 in
theorem pm_letter_L64 (a2 : Int32) (hl_a2 : 0 ≤ a2.toInt) (hh_a2 : a2.toInt ≤ 5) : PM 92 266 [.int 18, .int a2] := by
  refine ⟨60000, 60000, (-1), jh2, jh2, ?_, ?_, by decide +kernel⟩
  · refine Eq.trans (jr_s (pc2 := 1) (lv2 := [(0, .ref 9), (1, .int 18), (2, .int a2)]) (st2 := [.ref 9]) jF_92_0 rfl rfl) ?_
    refine Eq.trans (jr_gf (v := .ref 20) jF_92_1 (by decide +kernel)) ?_
    refine Eq.trans (jr_s (pc2 := 5) (lv2 := [(0, .ref 9), (1, .int 18), (2, .int a2)]) (st2 := [.int 18, .ref 20]) jF_92_4 rfl rfl) ?_
    refine Eq.trans (jr_s (pc2 := 6) (lv2 := [(0, .ref 9), (1, .int 18), (2, .int a2)]) (st2 := [.int a2, .int 18, .ref 20]) jF_92_5 rfl rfl) ?_
    refine Eq.trans (jr_cV (a := 20) (as := [.int 18, .int a2]) (rest := []) (v := some (.int (-1))) (hp2 := jh2) (fr2 := 499) (lo2 := 19978) jF_92_6 (by decide +kernel) rfl (show j_cnd 500 20000 499 19978 3 _ _ = true from rfl) ?_) ?_
    · refine Eq.trans (jr_s (pc2 := 1) (lv2 := [(0, .ref 20), (1, .int 18), (2, .int a2)]) (st2 := [.int 18]) jF_93_0 rfl rfl) ?_
      refine Eq.trans (jr_if0 jF_93_1 (by decide +kernel)) ?_
      refine Eq.trans (jr_s (pc2 := 5) (lv2 := [(0, .ref 20), (1, .int 18), (2, .int a2)]) (st2 := [.int 18]) jF_93_4 rfl rfl) ?_
      refine Eq.trans (jr_s (pc2 := 6) (lv2 := [(0, .ref 20), (1, .int 18), (2, .int a2)]) (st2 := [.ref 20, .int 18]) jF_93_5 rfl rfl) ?_
      refine Eq.trans (jr_gf (v := .ref 21) jF_93_6 (by decide +kernel)) ?_
      refine Eq.trans (jr_al (v := 25) jF_93_9 (by decide +kernel)) ?_
      refine Eq.trans (jr_ic0 jF_93_10 (by decide +kernel)) ?_
      refine Eq.trans (jr_s (pc2 := 14) (lv2 := [(0, .ref 20), (1, .int 18), (2, .int a2)]) (st2 := [.int a2]) jF_93_13 rfl rfl) ?_
      refine Eq.trans (jr_if0 jF_93_14 (jk_lt_ge (show (0 : Int32).toInt ≤ (a2 : Int32).toInt by rw [show (0 : Int32).toInt = 0 from by decide]; omega))) ?_
      refine Eq.trans (jr_s (pc2 := 18) (lv2 := [(0, .ref 20), (1, .int 18), (2, .int a2)]) (st2 := [.int a2]) jF_93_17 rfl rfl) ?_
      refine Eq.trans (jr_s (pc2 := 20) (lv2 := [(0, .ref 20), (1, .int 18), (2, .int a2)]) (st2 := [.int 6, .int a2]) jF_93_18 rfl rfl) ?_
      refine Eq.trans (jr_ic0 jF_93_20 (jk_ge_lt (show (a2 : Int32).toInt < (6 : Int32).toInt by rw [show (6 : Int32).toInt = 6 from by decide]; omega))) ?_
      refine Eq.trans (jr_s (pc2 := 24) (lv2 := [(0, .ref 20), (1, .int 18), (2, .int a2)]) (st2 := [.ref 20]) jF_93_23 rfl rfl) ?_
      refine Eq.trans (jr_gf (v := .ref 21) jF_93_24 (by decide +kernel)) ?_
      refine Eq.trans (jr_s (pc2 := 28) (lv2 := [(0, .ref 20), (1, .int 18), (2, .int a2)]) (st2 := [.int 18, .ref 21]) jF_93_27 rfl rfl) ?_
      refine Eq.trans (jr_ldi (v := .int 0) jF_93_28 (by decide +kernel)) ?_
      refine Eq.trans (jr_if0 jF_93_29 (by decide +kernel)) ?_
      refine Eq.trans (jr_s (pc2 := 33) (lv2 := [(0, .ref 20), (1, .int 18), (2, .int a2)]) (st2 := [.int (-1)]) jF_93_32 rfl rfl) ?_
      exact jr_ri jF_93_33 rfl
    exact jr_ri jF_92_9 rfl
  · refine Eq.trans (jr_s (pc2 := 1) (lv2 := [(0, .ref 117), (1, .int 18), (2, .int a2)]) (st2 := [.ref 117]) jF_266_0 rfl rfl) ?_
    refine Eq.trans (jr_s (pc2 := 2) (lv2 := [(0, .ref 117), (1, .int 18), (2, .int a2)]) (st2 := [.int 18, .ref 117]) jF_266_1 rfl rfl) ?_
    refine Eq.trans (jr_cV (a := 117) (as := [.int 18]) (rest := []) (v := some (.long 0)) (hp2 := jh2) (fr2 := 499) (lo2 := 19979) jF_266_2 (by decide +kernel) rfl (show j_cnd 500 20000 499 19979 2 _ _ = true from rfl) ?_) ?_
    · refine Eq.trans (jr_s (pc2 := 1) (lv2 := [(0, .ref 117), (1, .int 18)]) (st2 := [.int 18]) jF_267_0 rfl rfl) ?_
      refine Eq.trans (jr_s (pc2 := 2) (lv2 := [(0, .ref 117), (1, .int 18)]) (st2 := [.long 18]) jF_267_1 rfl rfl) ?_
      refine Eq.trans (jr_s (pc2 := 3) (lv2 := [(0, .ref 117), (1, .int 18)]) (st2 := [.long 0, .long 18]) jF_267_2 rfl rfl) ?_
      refine Eq.trans (jr_s (pc2 := 6) (lv2 := [(0, .ref 117), (1, .int 18)]) (st2 := [.long 17, .long 0, .long 18]) jF_267_3 rfl rfl) ?_
      refine Eq.trans (jr_cS (as := [.long 18, .long 0, .long 17]) (rest := []) (v := some (.int 0)) (hp2 := jh2) (fr2 := 498) (lo2 := 19954) jF_267_6 rfl (show j_cnd 499 19979 498 19954 6 _ _ = true from rfl) ?_) ?_
      · refine Eq.trans (jr_s (pc2 := 1) (lv2 := [(0, .long 18), (2, .long 0), (4, .long 17)]) (st2 := [.long 18]) jF_232_0 rfl rfl) ?_
        refine Eq.trans (jr_s (pc2 := 2) (lv2 := [(0, .long 18), (2, .long 0), (4, .long 17)]) (st2 := [.long 0, .long 18]) jF_232_1 rfl rfl) ?_
        refine Eq.trans (jr_s (pc2 := 3) (lv2 := [(0, .long 18), (2, .long 0), (4, .long 17)]) (st2 := [.int 1]) jF_232_2 rfl rfl) ?_
        refine Eq.trans (jr_if0 jF_232_3 (by decide +kernel)) ?_
        refine Eq.trans (jr_s (pc2 := 7) (lv2 := [(0, .long 18), (2, .long 0), (4, .long 17)]) (st2 := [.long 18]) jF_232_6 rfl rfl) ?_
        refine Eq.trans (jr_s (pc2 := 9) (lv2 := [(0, .long 18), (2, .long 0), (4, .long 17)]) (st2 := [.long 17, .long 18]) jF_232_7 rfl rfl) ?_
        refine Eq.trans (jr_s (pc2 := 10) (lv2 := [(0, .long 18), (2, .long 0), (4, .long 17)]) (st2 := [.int 1]) jF_232_9 rfl rfl) ?_
        refine Eq.trans (jr_if1 jF_232_10 (by decide +kernel)) ?_
        refine Eq.trans (jr_s (pc2 := 18) (lv2 := [(0, .long 18), (2, .long 0), (4, .long 17)]) (st2 := [.int 0]) jF_232_17 rfl rfl) ?_
        exact jr_ri jF_232_18 rfl
      refine Eq.trans (jr_if1 jF_267_9 (by decide +kernel)) ?_
      refine Eq.trans (jr_s (pc2 := 23) (lv2 := [(0, .ref 117), (1, .int 18)]) (st2 := [.int 18]) jF_267_22 rfl rfl) ?_
      refine Eq.trans (jr_s (pc2 := 25) (lv2 := [(0, .ref 117), (1, .int 18)]) (st2 := [.int 20, .int 18]) jF_267_23 rfl rfl) ?_
      refine Eq.trans (jr_s (pc2 := 26) (lv2 := [(0, .ref 117), (1, .int 18)]) (st2 := [.int (-2)]) jF_267_25 rfl rfl) ?_
      refine Eq.trans (jr_s (pc2 := 27) (lv2 := [(0, .ref 117), (1, .int 18)]) (st2 := [.long (-2)]) jF_267_26 rfl rfl) ?_
      refine Eq.trans (jr_s (pc2 := 28) (lv2 := [(0, .ref 117), (1, .int 18)]) (st2 := [.long 0, .long (-2)]) jF_267_27 rfl rfl) ?_
      refine Eq.trans (jr_s (pc2 := 29) (lv2 := [(0, .ref 117), (1, .int 18)]) (st2 := [.ref 117, .long 0, .long (-2)]) jF_267_28 rfl rfl) ?_
      refine Eq.trans (jr_gf (v := .int 0) jF_267_29 (by decide +kernel)) ?_
      refine Eq.trans (jr_s (pc2 := 33) (lv2 := [(0, .ref 117), (1, .int 18)]) (st2 := [.int 1, .int 0, .long 0, .long (-2)]) jF_267_32 rfl rfl) ?_
      refine Eq.trans (jr_s (pc2 := 34) (lv2 := [(0, .ref 117), (1, .int 18)]) (st2 := [.int (-1), .long 0, .long (-2)]) jF_267_33 rfl rfl) ?_
      refine Eq.trans (jr_s (pc2 := 35) (lv2 := [(0, .ref 117), (1, .int 18)]) (st2 := [.long (-1), .long 0, .long (-2)]) jF_267_34 rfl rfl) ?_
      refine Eq.trans (jr_cS (as := [.long (-2), .long 0, .long (-1)]) (rest := []) (v := some (.int 0)) (hp2 := jh2) (fr2 := 498) (lo2 := 19954) jF_267_35 rfl (show j_cnd 499 19979 498 19954 6 _ _ = true from rfl) ?_) ?_
      · refine Eq.trans (jr_s (pc2 := 1) (lv2 := [(0, .long (-2)), (2, .long 0), (4, .long (-1))]) (st2 := [.long (-2)]) jF_232_0 rfl rfl) ?_
        refine Eq.trans (jr_s (pc2 := 2) (lv2 := [(0, .long (-2)), (2, .long 0), (4, .long (-1))]) (st2 := [.long 0, .long (-2)]) jF_232_1 rfl rfl) ?_
        refine Eq.trans (jr_s (pc2 := 3) (lv2 := [(0, .long (-2)), (2, .long 0), (4, .long (-1))]) (st2 := [.int (-1)]) jF_232_2 rfl rfl) ?_
        refine Eq.trans (jr_if1 jF_232_3 (by decide +kernel)) ?_
        refine Eq.trans (jr_s (pc2 := 18) (lv2 := [(0, .long (-2)), (2, .long 0), (4, .long (-1))]) (st2 := [.int 0]) jF_232_17 rfl rfl) ?_
        exact jr_ri jF_232_18 rfl
      refine Eq.trans (jr_if1 jF_267_38 (by decide +kernel)) ?_
      refine Eq.trans (jr_s (pc2 := 56) (lv2 := [(0, .ref 117), (1, .int 18)]) (st2 := [.long 0]) jF_267_55 rfl rfl) ?_
      exact jr_rl jF_267_56
    refine Eq.trans (jr_s (pc2 := 6) (lv2 := [(3, .long 0), (0, .ref 117), (1, .int 18), (2, .int a2)]) (st2 := []) jF_266_5 rfl rfl) ?_
    refine Eq.trans (jr_s (pc2 := 7) (lv2 := [(3, .long 0), (0, .ref 117), (1, .int 18), (2, .int a2)]) (st2 := [.long 0]) jF_266_6 rfl rfl) ?_
    refine Eq.trans (jr_s (pc2 := 8) (lv2 := [(3, .long 0), (0, .ref 117), (1, .int 18), (2, .int a2)]) (st2 := [.long 0, .long 0]) jF_266_7 rfl rfl) ?_
    refine Eq.trans (jr_s (pc2 := 9) (lv2 := [(3, .long 0), (0, .ref 117), (1, .int 18), (2, .int a2)]) (st2 := [.int 0]) jF_266_8 rfl rfl) ?_
    refine Eq.trans (jr_if1 jF_266_9 (by decide +kernel)) ?_
    refine Eq.trans (jr_s (pc2 := 25) (lv2 := [(3, .long 0), (0, .ref 117), (1, .int 18), (2, .int a2)]) (st2 := [.int (-1)]) jF_266_24 rfl rfl) ?_
    exact jr_ri jF_266_25 rfl
set_option maxHeartbeats 8000000 in
set_option maxRecDepth 100000 in
theorem pm_letter_L65 (a2 : Int32) (hl_a2 : 0 ≤ a2.toInt) (hh_a2 : a2.toInt ≤ 5) : PM 92 266 [.int 19, .int a2] := by
  refine ⟨60000, 60000, (-1), jh2, jh2, ?_, ?_, by decide +kernel⟩
  · refine Eq.trans (jr_s (pc2 := 1) (lv2 := [(0, .ref 9), (1, .int 19), (2, .int a2)]) (st2 := [.ref 9]) jF_92_0 rfl rfl) ?_
    refine Eq.trans (jr_gf (v := .ref 20) jF_92_1 (by decide +kernel)) ?_
    refine Eq.trans (jr_s (pc2 := 5) (lv2 := [(0, .ref 9), (1, .int 19), (2, .int a2)]) (st2 := [.int 19, .ref 20]) jF_92_4 rfl rfl) ?_
    refine Eq.trans (jr_s (pc2 := 6) (lv2 := [(0, .ref 9), (1, .int 19), (2, .int a2)]) (st2 := [.int a2, .int 19, .ref 20]) jF_92_5 rfl rfl) ?_
    refine Eq.trans (jr_cV (a := 20) (as := [.int 19, .int a2]) (rest := []) (v := some (.int (-1))) (hp2 := jh2) (fr2 := 499) (lo2 := 19978) jF_92_6 (by decide +kernel) rfl (show j_cnd 500 20000 499 19978 3 _ _ = true from rfl) ?_) ?_
    · refine Eq.trans (jr_s (pc2 := 1) (lv2 := [(0, .ref 20), (1, .int 19), (2, .int a2)]) (st2 := [.int 19]) jF_93_0 rfl rfl) ?_
      refine Eq.trans (jr_if0 jF_93_1 (by decide +kernel)) ?_
      refine Eq.trans (jr_s (pc2 := 5) (lv2 := [(0, .ref 20), (1, .int 19), (2, .int a2)]) (st2 := [.int 19]) jF_93_4 rfl rfl) ?_
      refine Eq.trans (jr_s (pc2 := 6) (lv2 := [(0, .ref 20), (1, .int 19), (2, .int a2)]) (st2 := [.ref 20, .int 19]) jF_93_5 rfl rfl) ?_
      refine Eq.trans (jr_gf (v := .ref 21) jF_93_6 (by decide +kernel)) ?_
      refine Eq.trans (jr_al (v := 25) jF_93_9 (by decide +kernel)) ?_
      refine Eq.trans (jr_ic0 jF_93_10 (by decide +kernel)) ?_
      refine Eq.trans (jr_s (pc2 := 14) (lv2 := [(0, .ref 20), (1, .int 19), (2, .int a2)]) (st2 := [.int a2]) jF_93_13 rfl rfl) ?_
      refine Eq.trans (jr_if0 jF_93_14 (jk_lt_ge (show (0 : Int32).toInt ≤ (a2 : Int32).toInt by rw [show (0 : Int32).toInt = 0 from by decide]; omega))) ?_
      refine Eq.trans (jr_s (pc2 := 18) (lv2 := [(0, .ref 20), (1, .int 19), (2, .int a2)]) (st2 := [.int a2]) jF_93_17 rfl rfl) ?_
      refine Eq.trans (jr_s (pc2 := 20) (lv2 := [(0, .ref 20), (1, .int 19), (2, .int a2)]) (st2 := [.int 6, .int a2]) jF_93_18 rfl rfl) ?_
      refine Eq.trans (jr_ic0 jF_93_20 (jk_ge_lt (show (a2 : Int32).toInt < (6 : Int32).toInt by rw [show (6 : Int32).toInt = 6 from by decide]; omega))) ?_
      refine Eq.trans (jr_s (pc2 := 24) (lv2 := [(0, .ref 20), (1, .int 19), (2, .int a2)]) (st2 := [.ref 20]) jF_93_23 rfl rfl) ?_
      refine Eq.trans (jr_gf (v := .ref 21) jF_93_24 (by decide +kernel)) ?_
      refine Eq.trans (jr_s (pc2 := 28) (lv2 := [(0, .ref 20), (1, .int 19), (2, .int a2)]) (st2 := [.int 19, .ref 21]) jF_93_27 rfl rfl) ?_
      refine Eq.trans (jr_ldi (v := .int 0) jF_93_28 (by decide +kernel)) ?_
      refine Eq.trans (jr_if0 jF_93_29 (by decide +kernel)) ?_
      refine Eq.trans (jr_s (pc2 := 33) (lv2 := [(0, .ref 20), (1, .int 19), (2, .int a2)]) (st2 := [.int (-1)]) jF_93_32 rfl rfl) ?_
      exact jr_ri jF_93_33 rfl
    exact jr_ri jF_92_9 rfl
  · refine Eq.trans (jr_s (pc2 := 1) (lv2 := [(0, .ref 117), (1, .int 19), (2, .int a2)]) (st2 := [.ref 117]) jF_266_0 rfl rfl) ?_
    refine Eq.trans (jr_s (pc2 := 2) (lv2 := [(0, .ref 117), (1, .int 19), (2, .int a2)]) (st2 := [.int 19, .ref 117]) jF_266_1 rfl rfl) ?_
    refine Eq.trans (jr_cV (a := 117) (as := [.int 19]) (rest := []) (v := some (.long 0)) (hp2 := jh2) (fr2 := 499) (lo2 := 19979) jF_266_2 (by decide +kernel) rfl (show j_cnd 500 20000 499 19979 2 _ _ = true from rfl) ?_) ?_
    · refine Eq.trans (jr_s (pc2 := 1) (lv2 := [(0, .ref 117), (1, .int 19)]) (st2 := [.int 19]) jF_267_0 rfl rfl) ?_
      refine Eq.trans (jr_s (pc2 := 2) (lv2 := [(0, .ref 117), (1, .int 19)]) (st2 := [.long 19]) jF_267_1 rfl rfl) ?_
      refine Eq.trans (jr_s (pc2 := 3) (lv2 := [(0, .ref 117), (1, .int 19)]) (st2 := [.long 0, .long 19]) jF_267_2 rfl rfl) ?_
      refine Eq.trans (jr_s (pc2 := 6) (lv2 := [(0, .ref 117), (1, .int 19)]) (st2 := [.long 17, .long 0, .long 19]) jF_267_3 rfl rfl) ?_
      refine Eq.trans (jr_cS (as := [.long 19, .long 0, .long 17]) (rest := []) (v := some (.int 0)) (hp2 := jh2) (fr2 := 498) (lo2 := 19954) jF_267_6 rfl (show j_cnd 499 19979 498 19954 6 _ _ = true from rfl) ?_) ?_
      · refine Eq.trans (jr_s (pc2 := 1) (lv2 := [(0, .long 19), (2, .long 0), (4, .long 17)]) (st2 := [.long 19]) jF_232_0 rfl rfl) ?_
        refine Eq.trans (jr_s (pc2 := 2) (lv2 := [(0, .long 19), (2, .long 0), (4, .long 17)]) (st2 := [.long 0, .long 19]) jF_232_1 rfl rfl) ?_
        refine Eq.trans (jr_s (pc2 := 3) (lv2 := [(0, .long 19), (2, .long 0), (4, .long 17)]) (st2 := [.int 1]) jF_232_2 rfl rfl) ?_
        refine Eq.trans (jr_if0 jF_232_3 (by decide +kernel)) ?_
        refine Eq.trans (jr_s (pc2 := 7) (lv2 := [(0, .long 19), (2, .long 0), (4, .long 17)]) (st2 := [.long 19]) jF_232_6 rfl rfl) ?_
        refine Eq.trans (jr_s (pc2 := 9) (lv2 := [(0, .long 19), (2, .long 0), (4, .long 17)]) (st2 := [.long 17, .long 19]) jF_232_7 rfl rfl) ?_
        refine Eq.trans (jr_s (pc2 := 10) (lv2 := [(0, .long 19), (2, .long 0), (4, .long 17)]) (st2 := [.int 1]) jF_232_9 rfl rfl) ?_
        refine Eq.trans (jr_if1 jF_232_10 (by decide +kernel)) ?_
        refine Eq.trans (jr_s (pc2 := 18) (lv2 := [(0, .long 19), (2, .long 0), (4, .long 17)]) (st2 := [.int 0]) jF_232_17 rfl rfl) ?_
        exact jr_ri jF_232_18 rfl
      refine Eq.trans (jr_if1 jF_267_9 (by decide +kernel)) ?_
      refine Eq.trans (jr_s (pc2 := 23) (lv2 := [(0, .ref 117), (1, .int 19)]) (st2 := [.int 19]) jF_267_22 rfl rfl) ?_
      refine Eq.trans (jr_s (pc2 := 25) (lv2 := [(0, .ref 117), (1, .int 19)]) (st2 := [.int 20, .int 19]) jF_267_23 rfl rfl) ?_
      refine Eq.trans (jr_s (pc2 := 26) (lv2 := [(0, .ref 117), (1, .int 19)]) (st2 := [.int (-1)]) jF_267_25 rfl rfl) ?_
      refine Eq.trans (jr_s (pc2 := 27) (lv2 := [(0, .ref 117), (1, .int 19)]) (st2 := [.long (-1)]) jF_267_26 rfl rfl) ?_
      refine Eq.trans (jr_s (pc2 := 28) (lv2 := [(0, .ref 117), (1, .int 19)]) (st2 := [.long 0, .long (-1)]) jF_267_27 rfl rfl) ?_
      refine Eq.trans (jr_s (pc2 := 29) (lv2 := [(0, .ref 117), (1, .int 19)]) (st2 := [.ref 117, .long 0, .long (-1)]) jF_267_28 rfl rfl) ?_
      refine Eq.trans (jr_gf (v := .int 0) jF_267_29 (by decide +kernel)) ?_
      refine Eq.trans (jr_s (pc2 := 33) (lv2 := [(0, .ref 117), (1, .int 19)]) (st2 := [.int 1, .int 0, .long 0, .long (-1)]) jF_267_32 rfl rfl) ?_
      refine Eq.trans (jr_s (pc2 := 34) (lv2 := [(0, .ref 117), (1, .int 19)]) (st2 := [.int (-1), .long 0, .long (-1)]) jF_267_33 rfl rfl) ?_
      refine Eq.trans (jr_s (pc2 := 35) (lv2 := [(0, .ref 117), (1, .int 19)]) (st2 := [.long (-1), .long 0, .long (-1)]) jF_267_34 rfl rfl) ?_
      refine Eq.trans (jr_cS (as := [.long (-1), .long 0, .long (-1)]) (rest := []) (v := some (.int 0)) (hp2 := jh2) (fr2 := 498) (lo2 := 19954) jF_267_35 rfl (show j_cnd 499 19979 498 19954 6 _ _ = true from rfl) ?_) ?_
      · refine Eq.trans (jr_s (pc2 := 1) (lv2 := [(0, .long (-1)), (2, .long 0), (4, .long (-1))]) (st2 := [.long (-1)]) jF_232_0 rfl rfl) ?_
        refine Eq.trans (jr_s (pc2 := 2) (lv2 := [(0, .long (-1)), (2, .long 0), (4, .long (-1))]) (st2 := [.long 0, .long (-1)]) jF_232_1 rfl rfl) ?_
        refine Eq.trans (jr_s (pc2 := 3) (lv2 := [(0, .long (-1)), (2, .long 0), (4, .long (-1))]) (st2 := [.int (-1)]) jF_232_2 rfl rfl) ?_
        refine Eq.trans (jr_if1 jF_232_3 (by decide +kernel)) ?_
        refine Eq.trans (jr_s (pc2 := 18) (lv2 := [(0, .long (-1)), (2, .long 0), (4, .long (-1))]) (st2 := [.int 0]) jF_232_17 rfl rfl) ?_
        exact jr_ri jF_232_18 rfl
      refine Eq.trans (jr_if1 jF_267_38 (by decide +kernel)) ?_
      refine Eq.trans (jr_s (pc2 := 56) (lv2 := [(0, .ref 117), (1, .int 19)]) (st2 := [.long 0]) jF_267_55 rfl rfl) ?_
      exact jr_rl jF_267_56
    refine Eq.trans (jr_s (pc2 := 6) (lv2 := [(3, .long 0), (0, .ref 117), (1, .int 19), (2, .int a2)]) (st2 := []) jF_266_5 rfl rfl) ?_
    refine Eq.trans (jr_s (pc2 := 7) (lv2 := [(3, .long 0), (0, .ref 117), (1, .int 19), (2, .int a2)]) (st2 := [.long 0]) jF_266_6 rfl rfl) ?_
    refine Eq.trans (jr_s (pc2 := 8) (lv2 := [(3, .long 0), (0, .ref 117), (1, .int 19), (2, .int a2)]) (st2 := [.long 0, .long 0]) jF_266_7 rfl rfl) ?_
    refine Eq.trans (jr_s (pc2 := 9) (lv2 := [(3, .long 0), (0, .ref 117), (1, .int 19), (2, .int a2)]) (st2 := [.int 0]) jF_266_8 rfl rfl) ?_
    refine Eq.trans (jr_if1 jF_266_9 (by decide +kernel)) ?_
    refine Eq.trans (jr_s (pc2 := 25) (lv2 := [(3, .long 0), (0, .ref 117), (1, .int 19), (2, .int a2)]) (st2 := [.int (-1)]) jF_266_24 rfl rfl) ?_
    exact jr_ri jF_266_25 rfl
set_option maxHeartbeats 8000000 in
set_option maxRecDepth 100000 in
theorem pm_letter_L66 (a2 : Int32) (hl_a2 : 0 ≤ a2.toInt) (hh_a2 : a2.toInt ≤ 5) : PM 92 266 [.int 20, .int a2] := by
  refine ⟨60000, 60000, (-1), jh2, jh2, ?_, ?_, by decide +kernel⟩
  · refine Eq.trans (jr_s (pc2 := 1) (lv2 := [(0, .ref 9), (1, .int 20), (2, .int a2)]) (st2 := [.ref 9]) jF_92_0 rfl rfl) ?_
    refine Eq.trans (jr_gf (v := .ref 20) jF_92_1 (by decide +kernel)) ?_
    refine Eq.trans (jr_s (pc2 := 5) (lv2 := [(0, .ref 9), (1, .int 20), (2, .int a2)]) (st2 := [.int 20, .ref 20]) jF_92_4 rfl rfl) ?_
    refine Eq.trans (jr_s (pc2 := 6) (lv2 := [(0, .ref 9), (1, .int 20), (2, .int a2)]) (st2 := [.int a2, .int 20, .ref 20]) jF_92_5 rfl rfl) ?_
    refine Eq.trans (jr_cV (a := 20) (as := [.int 20, .int a2]) (rest := []) (v := some (.int (-1))) (hp2 := jh2) (fr2 := 499) (lo2 := 19978) jF_92_6 (by decide +kernel) rfl (show j_cnd 500 20000 499 19978 3 _ _ = true from rfl) ?_) ?_
    · refine Eq.trans (jr_s (pc2 := 1) (lv2 := [(0, .ref 20), (1, .int 20), (2, .int a2)]) (st2 := [.int 20]) jF_93_0 rfl rfl) ?_
      refine Eq.trans (jr_if0 jF_93_1 (by decide +kernel)) ?_
      refine Eq.trans (jr_s (pc2 := 5) (lv2 := [(0, .ref 20), (1, .int 20), (2, .int a2)]) (st2 := [.int 20]) jF_93_4 rfl rfl) ?_
      refine Eq.trans (jr_s (pc2 := 6) (lv2 := [(0, .ref 20), (1, .int 20), (2, .int a2)]) (st2 := [.ref 20, .int 20]) jF_93_5 rfl rfl) ?_
      refine Eq.trans (jr_gf (v := .ref 21) jF_93_6 (by decide +kernel)) ?_
      refine Eq.trans (jr_al (v := 25) jF_93_9 (by decide +kernel)) ?_
      refine Eq.trans (jr_ic0 jF_93_10 (by decide +kernel)) ?_
      refine Eq.trans (jr_s (pc2 := 14) (lv2 := [(0, .ref 20), (1, .int 20), (2, .int a2)]) (st2 := [.int a2]) jF_93_13 rfl rfl) ?_
      refine Eq.trans (jr_if0 jF_93_14 (jk_lt_ge (show (0 : Int32).toInt ≤ (a2 : Int32).toInt by rw [show (0 : Int32).toInt = 0 from by decide]; omega))) ?_
      refine Eq.trans (jr_s (pc2 := 18) (lv2 := [(0, .ref 20), (1, .int 20), (2, .int a2)]) (st2 := [.int a2]) jF_93_17 rfl rfl) ?_
      refine Eq.trans (jr_s (pc2 := 20) (lv2 := [(0, .ref 20), (1, .int 20), (2, .int a2)]) (st2 := [.int 6, .int a2]) jF_93_18 rfl rfl) ?_
      refine Eq.trans (jr_ic0 jF_93_20 (jk_ge_lt (show (a2 : Int32).toInt < (6 : Int32).toInt by rw [show (6 : Int32).toInt = 6 from by decide]; omega))) ?_
      refine Eq.trans (jr_s (pc2 := 24) (lv2 := [(0, .ref 20), (1, .int 20), (2, .int a2)]) (st2 := [.ref 20]) jF_93_23 rfl rfl) ?_
      refine Eq.trans (jr_gf (v := .ref 21) jF_93_24 (by decide +kernel)) ?_
      refine Eq.trans (jr_s (pc2 := 28) (lv2 := [(0, .ref 20), (1, .int 20), (2, .int a2)]) (st2 := [.int 20, .ref 21]) jF_93_27 rfl rfl) ?_
      refine Eq.trans (jr_ldi (v := .int 0) jF_93_28 (by decide +kernel)) ?_
      refine Eq.trans (jr_if0 jF_93_29 (by decide +kernel)) ?_
      refine Eq.trans (jr_s (pc2 := 33) (lv2 := [(0, .ref 20), (1, .int 20), (2, .int a2)]) (st2 := [.int (-1)]) jF_93_32 rfl rfl) ?_
      exact jr_ri jF_93_33 rfl
    exact jr_ri jF_92_9 rfl
  · refine Eq.trans (jr_s (pc2 := 1) (lv2 := [(0, .ref 117), (1, .int 20), (2, .int a2)]) (st2 := [.ref 117]) jF_266_0 rfl rfl) ?_
    refine Eq.trans (jr_s (pc2 := 2) (lv2 := [(0, .ref 117), (1, .int 20), (2, .int a2)]) (st2 := [.int 20, .ref 117]) jF_266_1 rfl rfl) ?_
    refine Eq.trans (jr_cV (a := 117) (as := [.int 20]) (rest := []) (v := some (.long 0)) (hp2 := jh2) (fr2 := 499) (lo2 := 19979) jF_266_2 (by decide +kernel) rfl (show j_cnd 500 20000 499 19979 2 _ _ = true from rfl) ?_) ?_
    · refine Eq.trans (jr_s (pc2 := 1) (lv2 := [(0, .ref 117), (1, .int 20)]) (st2 := [.int 20]) jF_267_0 rfl rfl) ?_
      refine Eq.trans (jr_s (pc2 := 2) (lv2 := [(0, .ref 117), (1, .int 20)]) (st2 := [.long 20]) jF_267_1 rfl rfl) ?_
      refine Eq.trans (jr_s (pc2 := 3) (lv2 := [(0, .ref 117), (1, .int 20)]) (st2 := [.long 0, .long 20]) jF_267_2 rfl rfl) ?_
      refine Eq.trans (jr_s (pc2 := 6) (lv2 := [(0, .ref 117), (1, .int 20)]) (st2 := [.long 17, .long 0, .long 20]) jF_267_3 rfl rfl) ?_
      refine Eq.trans (jr_cS (as := [.long 20, .long 0, .long 17]) (rest := []) (v := some (.int 0)) (hp2 := jh2) (fr2 := 498) (lo2 := 19954) jF_267_6 rfl (show j_cnd 499 19979 498 19954 6 _ _ = true from rfl) ?_) ?_
      · refine Eq.trans (jr_s (pc2 := 1) (lv2 := [(0, .long 20), (2, .long 0), (4, .long 17)]) (st2 := [.long 20]) jF_232_0 rfl rfl) ?_
        refine Eq.trans (jr_s (pc2 := 2) (lv2 := [(0, .long 20), (2, .long 0), (4, .long 17)]) (st2 := [.long 0, .long 20]) jF_232_1 rfl rfl) ?_
        refine Eq.trans (jr_s (pc2 := 3) (lv2 := [(0, .long 20), (2, .long 0), (4, .long 17)]) (st2 := [.int 1]) jF_232_2 rfl rfl) ?_
        refine Eq.trans (jr_if0 jF_232_3 (by decide +kernel)) ?_
        refine Eq.trans (jr_s (pc2 := 7) (lv2 := [(0, .long 20), (2, .long 0), (4, .long 17)]) (st2 := [.long 20]) jF_232_6 rfl rfl) ?_
        refine Eq.trans (jr_s (pc2 := 9) (lv2 := [(0, .long 20), (2, .long 0), (4, .long 17)]) (st2 := [.long 17, .long 20]) jF_232_7 rfl rfl) ?_
        refine Eq.trans (jr_s (pc2 := 10) (lv2 := [(0, .long 20), (2, .long 0), (4, .long 17)]) (st2 := [.int 1]) jF_232_9 rfl rfl) ?_
        refine Eq.trans (jr_if1 jF_232_10 (by decide +kernel)) ?_
        refine Eq.trans (jr_s (pc2 := 18) (lv2 := [(0, .long 20), (2, .long 0), (4, .long 17)]) (st2 := [.int 0]) jF_232_17 rfl rfl) ?_
        exact jr_ri jF_232_18 rfl
      refine Eq.trans (jr_if1 jF_267_9 (by decide +kernel)) ?_
      refine Eq.trans (jr_s (pc2 := 23) (lv2 := [(0, .ref 117), (1, .int 20)]) (st2 := [.int 20]) jF_267_22 rfl rfl) ?_
      refine Eq.trans (jr_s (pc2 := 25) (lv2 := [(0, .ref 117), (1, .int 20)]) (st2 := [.int 20, .int 20]) jF_267_23 rfl rfl) ?_
      refine Eq.trans (jr_s (pc2 := 26) (lv2 := [(0, .ref 117), (1, .int 20)]) (st2 := [.int 0]) jF_267_25 rfl rfl) ?_
      refine Eq.trans (jr_s (pc2 := 27) (lv2 := [(0, .ref 117), (1, .int 20)]) (st2 := [.long 0]) jF_267_26 rfl rfl) ?_
      refine Eq.trans (jr_s (pc2 := 28) (lv2 := [(0, .ref 117), (1, .int 20)]) (st2 := [.long 0, .long 0]) jF_267_27 rfl rfl) ?_
      refine Eq.trans (jr_s (pc2 := 29) (lv2 := [(0, .ref 117), (1, .int 20)]) (st2 := [.ref 117, .long 0, .long 0]) jF_267_28 rfl rfl) ?_
      refine Eq.trans (jr_gf (v := .int 0) jF_267_29 (by decide +kernel)) ?_
      refine Eq.trans (jr_s (pc2 := 33) (lv2 := [(0, .ref 117), (1, .int 20)]) (st2 := [.int 1, .int 0, .long 0, .long 0]) jF_267_32 rfl rfl) ?_
      refine Eq.trans (jr_s (pc2 := 34) (lv2 := [(0, .ref 117), (1, .int 20)]) (st2 := [.int (-1), .long 0, .long 0]) jF_267_33 rfl rfl) ?_
      refine Eq.trans (jr_s (pc2 := 35) (lv2 := [(0, .ref 117), (1, .int 20)]) (st2 := [.long (-1), .long 0, .long 0]) jF_267_34 rfl rfl) ?_
      refine Eq.trans (jr_cS (as := [.long 0, .long 0, .long (-1)]) (rest := []) (v := some (.int 0)) (hp2 := jh2) (fr2 := 498) (lo2 := 19954) jF_267_35 rfl (show j_cnd 499 19979 498 19954 6 _ _ = true from rfl) ?_) ?_
      · refine Eq.trans (jr_s (pc2 := 1) (lv2 := [(0, .long 0), (2, .long 0), (4, .long (-1))]) (st2 := [.long 0]) jF_232_0 rfl rfl) ?_
        refine Eq.trans (jr_s (pc2 := 2) (lv2 := [(0, .long 0), (2, .long 0), (4, .long (-1))]) (st2 := [.long 0, .long 0]) jF_232_1 rfl rfl) ?_
        refine Eq.trans (jr_s (pc2 := 3) (lv2 := [(0, .long 0), (2, .long 0), (4, .long (-1))]) (st2 := [.int 0]) jF_232_2 rfl rfl) ?_
        refine Eq.trans (jr_if0 jF_232_3 (by decide +kernel)) ?_
        refine Eq.trans (jr_s (pc2 := 7) (lv2 := [(0, .long 0), (2, .long 0), (4, .long (-1))]) (st2 := [.long 0]) jF_232_6 rfl rfl) ?_
        refine Eq.trans (jr_s (pc2 := 9) (lv2 := [(0, .long 0), (2, .long 0), (4, .long (-1))]) (st2 := [.long (-1), .long 0]) jF_232_7 rfl rfl) ?_
        refine Eq.trans (jr_s (pc2 := 10) (lv2 := [(0, .long 0), (2, .long 0), (4, .long (-1))]) (st2 := [.int 1]) jF_232_9 rfl rfl) ?_
        refine Eq.trans (jr_if1 jF_232_10 (by decide +kernel)) ?_
        refine Eq.trans (jr_s (pc2 := 18) (lv2 := [(0, .long 0), (2, .long 0), (4, .long (-1))]) (st2 := [.int 0]) jF_232_17 rfl rfl) ?_
        exact jr_ri jF_232_18 rfl
      refine Eq.trans (jr_if1 jF_267_38 (by decide +kernel)) ?_
      refine Eq.trans (jr_s (pc2 := 56) (lv2 := [(0, .ref 117), (1, .int 20)]) (st2 := [.long 0]) jF_267_55 rfl rfl) ?_
      exact jr_rl jF_267_56
    refine Eq.trans (jr_s (pc2 := 6) (lv2 := [(3, .long 0), (0, .ref 117), (1, .int 20), (2, .int a2)]) (st2 := []) jF_266_5 rfl rfl) ?_
    refine Eq.trans (jr_s (pc2 := 7) (lv2 := [(3, .long 0), (0, .ref 117), (1, .int 20), (2, .int a2)]) (st2 := [.long 0]) jF_266_6 rfl rfl) ?_
    refine Eq.trans (jr_s (pc2 := 8) (lv2 := [(3, .long 0), (0, .ref 117), (1, .int 20), (2, .int a2)]) (st2 := [.long 0, .long 0]) jF_266_7 rfl rfl) ?_
    refine Eq.trans (jr_s (pc2 := 9) (lv2 := [(3, .long 0), (0, .ref 117), (1, .int 20), (2, .int a2)]) (st2 := [.int 0]) jF_266_8 rfl rfl) ?_
    refine Eq.trans (jr_if1 jF_266_9 (by decide +kernel)) ?_
    refine Eq.trans (jr_s (pc2 := 25) (lv2 := [(3, .long 0), (0, .ref 117), (1, .int 20), (2, .int a2)]) (st2 := [.int (-1)]) jF_266_24 rfl rfl) ?_
    exact jr_ri jF_266_25 rfl
set_option maxHeartbeats 8000000 in
set_option maxRecDepth 100000 in
theorem pm_letter_L67 (a2 : Int32) (hl_a2 : 0 ≤ a2.toInt) (hh_a2 : a2.toInt ≤ 5) : PM 92 266 [.int 21, .int a2] := by
  refine ⟨60000, 60000, (-1), jh2, jh2, ?_, ?_, by decide +kernel⟩
  · refine Eq.trans (jr_s (pc2 := 1) (lv2 := [(0, .ref 9), (1, .int 21), (2, .int a2)]) (st2 := [.ref 9]) jF_92_0 rfl rfl) ?_
    refine Eq.trans (jr_gf (v := .ref 20) jF_92_1 (by decide +kernel)) ?_
    refine Eq.trans (jr_s (pc2 := 5) (lv2 := [(0, .ref 9), (1, .int 21), (2, .int a2)]) (st2 := [.int 21, .ref 20]) jF_92_4 rfl rfl) ?_
    refine Eq.trans (jr_s (pc2 := 6) (lv2 := [(0, .ref 9), (1, .int 21), (2, .int a2)]) (st2 := [.int a2, .int 21, .ref 20]) jF_92_5 rfl rfl) ?_
    refine Eq.trans (jr_cV (a := 20) (as := [.int 21, .int a2]) (rest := []) (v := some (.int (-1))) (hp2 := jh2) (fr2 := 499) (lo2 := 19978) jF_92_6 (by decide +kernel) rfl (show j_cnd 500 20000 499 19978 3 _ _ = true from rfl) ?_) ?_
    · refine Eq.trans (jr_s (pc2 := 1) (lv2 := [(0, .ref 20), (1, .int 21), (2, .int a2)]) (st2 := [.int 21]) jF_93_0 rfl rfl) ?_
      refine Eq.trans (jr_if0 jF_93_1 (by decide +kernel)) ?_
      refine Eq.trans (jr_s (pc2 := 5) (lv2 := [(0, .ref 20), (1, .int 21), (2, .int a2)]) (st2 := [.int 21]) jF_93_4 rfl rfl) ?_
      refine Eq.trans (jr_s (pc2 := 6) (lv2 := [(0, .ref 20), (1, .int 21), (2, .int a2)]) (st2 := [.ref 20, .int 21]) jF_93_5 rfl rfl) ?_
      refine Eq.trans (jr_gf (v := .ref 21) jF_93_6 (by decide +kernel)) ?_
      refine Eq.trans (jr_al (v := 25) jF_93_9 (by decide +kernel)) ?_
      refine Eq.trans (jr_ic0 jF_93_10 (by decide +kernel)) ?_
      refine Eq.trans (jr_s (pc2 := 14) (lv2 := [(0, .ref 20), (1, .int 21), (2, .int a2)]) (st2 := [.int a2]) jF_93_13 rfl rfl) ?_
      refine Eq.trans (jr_if0 jF_93_14 (jk_lt_ge (show (0 : Int32).toInt ≤ (a2 : Int32).toInt by rw [show (0 : Int32).toInt = 0 from by decide]; omega))) ?_
      refine Eq.trans (jr_s (pc2 := 18) (lv2 := [(0, .ref 20), (1, .int 21), (2, .int a2)]) (st2 := [.int a2]) jF_93_17 rfl rfl) ?_
      refine Eq.trans (jr_s (pc2 := 20) (lv2 := [(0, .ref 20), (1, .int 21), (2, .int a2)]) (st2 := [.int 6, .int a2]) jF_93_18 rfl rfl) ?_
      refine Eq.trans (jr_ic0 jF_93_20 (jk_ge_lt (show (a2 : Int32).toInt < (6 : Int32).toInt by rw [show (6 : Int32).toInt = 6 from by decide]; omega))) ?_
      refine Eq.trans (jr_s (pc2 := 24) (lv2 := [(0, .ref 20), (1, .int 21), (2, .int a2)]) (st2 := [.ref 20]) jF_93_23 rfl rfl) ?_
      refine Eq.trans (jr_gf (v := .ref 21) jF_93_24 (by decide +kernel)) ?_
      refine Eq.trans (jr_s (pc2 := 28) (lv2 := [(0, .ref 20), (1, .int 21), (2, .int a2)]) (st2 := [.int 21, .ref 21]) jF_93_27 rfl rfl) ?_
      refine Eq.trans (jr_ldi (v := .int 0) jF_93_28 (by decide +kernel)) ?_
      refine Eq.trans (jr_if0 jF_93_29 (by decide +kernel)) ?_
      refine Eq.trans (jr_s (pc2 := 33) (lv2 := [(0, .ref 20), (1, .int 21), (2, .int a2)]) (st2 := [.int (-1)]) jF_93_32 rfl rfl) ?_
      exact jr_ri jF_93_33 rfl
    exact jr_ri jF_92_9 rfl
  · refine Eq.trans (jr_s (pc2 := 1) (lv2 := [(0, .ref 117), (1, .int 21), (2, .int a2)]) (st2 := [.ref 117]) jF_266_0 rfl rfl) ?_
    refine Eq.trans (jr_s (pc2 := 2) (lv2 := [(0, .ref 117), (1, .int 21), (2, .int a2)]) (st2 := [.int 21, .ref 117]) jF_266_1 rfl rfl) ?_
    refine Eq.trans (jr_cV (a := 117) (as := [.int 21]) (rest := []) (v := some (.long 0)) (hp2 := jh2) (fr2 := 499) (lo2 := 19979) jF_266_2 (by decide +kernel) rfl (show j_cnd 500 20000 499 19979 2 _ _ = true from rfl) ?_) ?_
    · refine Eq.trans (jr_s (pc2 := 1) (lv2 := [(0, .ref 117), (1, .int 21)]) (st2 := [.int 21]) jF_267_0 rfl rfl) ?_
      refine Eq.trans (jr_s (pc2 := 2) (lv2 := [(0, .ref 117), (1, .int 21)]) (st2 := [.long 21]) jF_267_1 rfl rfl) ?_
      refine Eq.trans (jr_s (pc2 := 3) (lv2 := [(0, .ref 117), (1, .int 21)]) (st2 := [.long 0, .long 21]) jF_267_2 rfl rfl) ?_
      refine Eq.trans (jr_s (pc2 := 6) (lv2 := [(0, .ref 117), (1, .int 21)]) (st2 := [.long 17, .long 0, .long 21]) jF_267_3 rfl rfl) ?_
      refine Eq.trans (jr_cS (as := [.long 21, .long 0, .long 17]) (rest := []) (v := some (.int 0)) (hp2 := jh2) (fr2 := 498) (lo2 := 19954) jF_267_6 rfl (show j_cnd 499 19979 498 19954 6 _ _ = true from rfl) ?_) ?_
      · refine Eq.trans (jr_s (pc2 := 1) (lv2 := [(0, .long 21), (2, .long 0), (4, .long 17)]) (st2 := [.long 21]) jF_232_0 rfl rfl) ?_
        refine Eq.trans (jr_s (pc2 := 2) (lv2 := [(0, .long 21), (2, .long 0), (4, .long 17)]) (st2 := [.long 0, .long 21]) jF_232_1 rfl rfl) ?_
        refine Eq.trans (jr_s (pc2 := 3) (lv2 := [(0, .long 21), (2, .long 0), (4, .long 17)]) (st2 := [.int 1]) jF_232_2 rfl rfl) ?_
        refine Eq.trans (jr_if0 jF_232_3 (by decide +kernel)) ?_
        refine Eq.trans (jr_s (pc2 := 7) (lv2 := [(0, .long 21), (2, .long 0), (4, .long 17)]) (st2 := [.long 21]) jF_232_6 rfl rfl) ?_
        refine Eq.trans (jr_s (pc2 := 9) (lv2 := [(0, .long 21), (2, .long 0), (4, .long 17)]) (st2 := [.long 17, .long 21]) jF_232_7 rfl rfl) ?_
        refine Eq.trans (jr_s (pc2 := 10) (lv2 := [(0, .long 21), (2, .long 0), (4, .long 17)]) (st2 := [.int 1]) jF_232_9 rfl rfl) ?_
        refine Eq.trans (jr_if1 jF_232_10 (by decide +kernel)) ?_
        refine Eq.trans (jr_s (pc2 := 18) (lv2 := [(0, .long 21), (2, .long 0), (4, .long 17)]) (st2 := [.int 0]) jF_232_17 rfl rfl) ?_
        exact jr_ri jF_232_18 rfl
      refine Eq.trans (jr_if1 jF_267_9 (by decide +kernel)) ?_
      refine Eq.trans (jr_s (pc2 := 23) (lv2 := [(0, .ref 117), (1, .int 21)]) (st2 := [.int 21]) jF_267_22 rfl rfl) ?_
      refine Eq.trans (jr_s (pc2 := 25) (lv2 := [(0, .ref 117), (1, .int 21)]) (st2 := [.int 20, .int 21]) jF_267_23 rfl rfl) ?_
      refine Eq.trans (jr_s (pc2 := 26) (lv2 := [(0, .ref 117), (1, .int 21)]) (st2 := [.int 1]) jF_267_25 rfl rfl) ?_
      refine Eq.trans (jr_s (pc2 := 27) (lv2 := [(0, .ref 117), (1, .int 21)]) (st2 := [.long 1]) jF_267_26 rfl rfl) ?_
      refine Eq.trans (jr_s (pc2 := 28) (lv2 := [(0, .ref 117), (1, .int 21)]) (st2 := [.long 0, .long 1]) jF_267_27 rfl rfl) ?_
      refine Eq.trans (jr_s (pc2 := 29) (lv2 := [(0, .ref 117), (1, .int 21)]) (st2 := [.ref 117, .long 0, .long 1]) jF_267_28 rfl rfl) ?_
      refine Eq.trans (jr_gf (v := .int 0) jF_267_29 (by decide +kernel)) ?_
      refine Eq.trans (jr_s (pc2 := 33) (lv2 := [(0, .ref 117), (1, .int 21)]) (st2 := [.int 1, .int 0, .long 0, .long 1]) jF_267_32 rfl rfl) ?_
      refine Eq.trans (jr_s (pc2 := 34) (lv2 := [(0, .ref 117), (1, .int 21)]) (st2 := [.int (-1), .long 0, .long 1]) jF_267_33 rfl rfl) ?_
      refine Eq.trans (jr_s (pc2 := 35) (lv2 := [(0, .ref 117), (1, .int 21)]) (st2 := [.long (-1), .long 0, .long 1]) jF_267_34 rfl rfl) ?_
      refine Eq.trans (jr_cS (as := [.long 1, .long 0, .long (-1)]) (rest := []) (v := some (.int 0)) (hp2 := jh2) (fr2 := 498) (lo2 := 19954) jF_267_35 rfl (show j_cnd 499 19979 498 19954 6 _ _ = true from rfl) ?_) ?_
      · refine Eq.trans (jr_s (pc2 := 1) (lv2 := [(0, .long 1), (2, .long 0), (4, .long (-1))]) (st2 := [.long 1]) jF_232_0 rfl rfl) ?_
        refine Eq.trans (jr_s (pc2 := 2) (lv2 := [(0, .long 1), (2, .long 0), (4, .long (-1))]) (st2 := [.long 0, .long 1]) jF_232_1 rfl rfl) ?_
        refine Eq.trans (jr_s (pc2 := 3) (lv2 := [(0, .long 1), (2, .long 0), (4, .long (-1))]) (st2 := [.int 1]) jF_232_2 rfl rfl) ?_
        refine Eq.trans (jr_if0 jF_232_3 (by decide +kernel)) ?_
        refine Eq.trans (jr_s (pc2 := 7) (lv2 := [(0, .long 1), (2, .long 0), (4, .long (-1))]) (st2 := [.long 1]) jF_232_6 rfl rfl) ?_
        refine Eq.trans (jr_s (pc2 := 9) (lv2 := [(0, .long 1), (2, .long 0), (4, .long (-1))]) (st2 := [.long (-1), .long 1]) jF_232_7 rfl rfl) ?_
        refine Eq.trans (jr_s (pc2 := 10) (lv2 := [(0, .long 1), (2, .long 0), (4, .long (-1))]) (st2 := [.int 1]) jF_232_9 rfl rfl) ?_
        refine Eq.trans (jr_if1 jF_232_10 (by decide +kernel)) ?_
        refine Eq.trans (jr_s (pc2 := 18) (lv2 := [(0, .long 1), (2, .long 0), (4, .long (-1))]) (st2 := [.int 0]) jF_232_17 rfl rfl) ?_
        exact jr_ri jF_232_18 rfl
      refine Eq.trans (jr_if1 jF_267_38 (by decide +kernel)) ?_
      refine Eq.trans (jr_s (pc2 := 56) (lv2 := [(0, .ref 117), (1, .int 21)]) (st2 := [.long 0]) jF_267_55 rfl rfl) ?_
      exact jr_rl jF_267_56
    refine Eq.trans (jr_s (pc2 := 6) (lv2 := [(3, .long 0), (0, .ref 117), (1, .int 21), (2, .int a2)]) (st2 := []) jF_266_5 rfl rfl) ?_
    refine Eq.trans (jr_s (pc2 := 7) (lv2 := [(3, .long 0), (0, .ref 117), (1, .int 21), (2, .int a2)]) (st2 := [.long 0]) jF_266_6 rfl rfl) ?_
    refine Eq.trans (jr_s (pc2 := 8) (lv2 := [(3, .long 0), (0, .ref 117), (1, .int 21), (2, .int a2)]) (st2 := [.long 0, .long 0]) jF_266_7 rfl rfl) ?_
    refine Eq.trans (jr_s (pc2 := 9) (lv2 := [(3, .long 0), (0, .ref 117), (1, .int 21), (2, .int a2)]) (st2 := [.int 0]) jF_266_8 rfl rfl) ?_
    refine Eq.trans (jr_if1 jF_266_9 (by decide +kernel)) ?_
    refine Eq.trans (jr_s (pc2 := 25) (lv2 := [(3, .long 0), (0, .ref 117), (1, .int 21), (2, .int a2)]) (st2 := [.int (-1)]) jF_266_24 rfl rfl) ?_
    exact jr_ri jF_266_25 rfl
set_option maxHeartbeats 8000000 in
set_option maxRecDepth 100000 in
theorem pm_letter_L68 (a2 : Int32) (hl_a2 : 0 ≤ a2.toInt) (hh_a2 : a2.toInt ≤ 5) : PM 92 266 [.int 22, .int a2] := by
  refine ⟨60000, 60000, (-1), jh2, jh2, ?_, ?_, by decide +kernel⟩
  · refine Eq.trans (jr_s (pc2 := 1) (lv2 := [(0, .ref 9), (1, .int 22), (2, .int a2)]) (st2 := [.ref 9]) jF_92_0 rfl rfl) ?_
    refine Eq.trans (jr_gf (v := .ref 20) jF_92_1 (by decide +kernel)) ?_
    refine Eq.trans (jr_s (pc2 := 5) (lv2 := [(0, .ref 9), (1, .int 22), (2, .int a2)]) (st2 := [.int 22, .ref 20]) jF_92_4 rfl rfl) ?_
    refine Eq.trans (jr_s (pc2 := 6) (lv2 := [(0, .ref 9), (1, .int 22), (2, .int a2)]) (st2 := [.int a2, .int 22, .ref 20]) jF_92_5 rfl rfl) ?_
    refine Eq.trans (jr_cV (a := 20) (as := [.int 22, .int a2]) (rest := []) (v := some (.int (-1))) (hp2 := jh2) (fr2 := 499) (lo2 := 19978) jF_92_6 (by decide +kernel) rfl (show j_cnd 500 20000 499 19978 3 _ _ = true from rfl) ?_) ?_
    · refine Eq.trans (jr_s (pc2 := 1) (lv2 := [(0, .ref 20), (1, .int 22), (2, .int a2)]) (st2 := [.int 22]) jF_93_0 rfl rfl) ?_
      refine Eq.trans (jr_if0 jF_93_1 (by decide +kernel)) ?_
      refine Eq.trans (jr_s (pc2 := 5) (lv2 := [(0, .ref 20), (1, .int 22), (2, .int a2)]) (st2 := [.int 22]) jF_93_4 rfl rfl) ?_
      refine Eq.trans (jr_s (pc2 := 6) (lv2 := [(0, .ref 20), (1, .int 22), (2, .int a2)]) (st2 := [.ref 20, .int 22]) jF_93_5 rfl rfl) ?_
      refine Eq.trans (jr_gf (v := .ref 21) jF_93_6 (by decide +kernel)) ?_
      refine Eq.trans (jr_al (v := 25) jF_93_9 (by decide +kernel)) ?_
      refine Eq.trans (jr_ic0 jF_93_10 (by decide +kernel)) ?_
      refine Eq.trans (jr_s (pc2 := 14) (lv2 := [(0, .ref 20), (1, .int 22), (2, .int a2)]) (st2 := [.int a2]) jF_93_13 rfl rfl) ?_
      refine Eq.trans (jr_if0 jF_93_14 (jk_lt_ge (show (0 : Int32).toInt ≤ (a2 : Int32).toInt by rw [show (0 : Int32).toInt = 0 from by decide]; omega))) ?_
      refine Eq.trans (jr_s (pc2 := 18) (lv2 := [(0, .ref 20), (1, .int 22), (2, .int a2)]) (st2 := [.int a2]) jF_93_17 rfl rfl) ?_
      refine Eq.trans (jr_s (pc2 := 20) (lv2 := [(0, .ref 20), (1, .int 22), (2, .int a2)]) (st2 := [.int 6, .int a2]) jF_93_18 rfl rfl) ?_
      refine Eq.trans (jr_ic0 jF_93_20 (jk_ge_lt (show (a2 : Int32).toInt < (6 : Int32).toInt by rw [show (6 : Int32).toInt = 6 from by decide]; omega))) ?_
      refine Eq.trans (jr_s (pc2 := 24) (lv2 := [(0, .ref 20), (1, .int 22), (2, .int a2)]) (st2 := [.ref 20]) jF_93_23 rfl rfl) ?_
      refine Eq.trans (jr_gf (v := .ref 21) jF_93_24 (by decide +kernel)) ?_
      refine Eq.trans (jr_s (pc2 := 28) (lv2 := [(0, .ref 20), (1, .int 22), (2, .int a2)]) (st2 := [.int 22, .ref 21]) jF_93_27 rfl rfl) ?_
      refine Eq.trans (jr_ldi (v := .int 0) jF_93_28 (by decide +kernel)) ?_
      refine Eq.trans (jr_if0 jF_93_29 (by decide +kernel)) ?_
      refine Eq.trans (jr_s (pc2 := 33) (lv2 := [(0, .ref 20), (1, .int 22), (2, .int a2)]) (st2 := [.int (-1)]) jF_93_32 rfl rfl) ?_
      exact jr_ri jF_93_33 rfl
    exact jr_ri jF_92_9 rfl
  · refine Eq.trans (jr_s (pc2 := 1) (lv2 := [(0, .ref 117), (1, .int 22), (2, .int a2)]) (st2 := [.ref 117]) jF_266_0 rfl rfl) ?_
    refine Eq.trans (jr_s (pc2 := 2) (lv2 := [(0, .ref 117), (1, .int 22), (2, .int a2)]) (st2 := [.int 22, .ref 117]) jF_266_1 rfl rfl) ?_
    refine Eq.trans (jr_cV (a := 117) (as := [.int 22]) (rest := []) (v := some (.long 0)) (hp2 := jh2) (fr2 := 499) (lo2 := 19979) jF_266_2 (by decide +kernel) rfl (show j_cnd 500 20000 499 19979 2 _ _ = true from rfl) ?_) ?_
    · refine Eq.trans (jr_s (pc2 := 1) (lv2 := [(0, .ref 117), (1, .int 22)]) (st2 := [.int 22]) jF_267_0 rfl rfl) ?_
      refine Eq.trans (jr_s (pc2 := 2) (lv2 := [(0, .ref 117), (1, .int 22)]) (st2 := [.long 22]) jF_267_1 rfl rfl) ?_
      refine Eq.trans (jr_s (pc2 := 3) (lv2 := [(0, .ref 117), (1, .int 22)]) (st2 := [.long 0, .long 22]) jF_267_2 rfl rfl) ?_
      refine Eq.trans (jr_s (pc2 := 6) (lv2 := [(0, .ref 117), (1, .int 22)]) (st2 := [.long 17, .long 0, .long 22]) jF_267_3 rfl rfl) ?_
      refine Eq.trans (jr_cS (as := [.long 22, .long 0, .long 17]) (rest := []) (v := some (.int 0)) (hp2 := jh2) (fr2 := 498) (lo2 := 19954) jF_267_6 rfl (show j_cnd 499 19979 498 19954 6 _ _ = true from rfl) ?_) ?_
      · refine Eq.trans (jr_s (pc2 := 1) (lv2 := [(0, .long 22), (2, .long 0), (4, .long 17)]) (st2 := [.long 22]) jF_232_0 rfl rfl) ?_
        refine Eq.trans (jr_s (pc2 := 2) (lv2 := [(0, .long 22), (2, .long 0), (4, .long 17)]) (st2 := [.long 0, .long 22]) jF_232_1 rfl rfl) ?_
        refine Eq.trans (jr_s (pc2 := 3) (lv2 := [(0, .long 22), (2, .long 0), (4, .long 17)]) (st2 := [.int 1]) jF_232_2 rfl rfl) ?_
        refine Eq.trans (jr_if0 jF_232_3 (by decide +kernel)) ?_
        refine Eq.trans (jr_s (pc2 := 7) (lv2 := [(0, .long 22), (2, .long 0), (4, .long 17)]) (st2 := [.long 22]) jF_232_6 rfl rfl) ?_
        refine Eq.trans (jr_s (pc2 := 9) (lv2 := [(0, .long 22), (2, .long 0), (4, .long 17)]) (st2 := [.long 17, .long 22]) jF_232_7 rfl rfl) ?_
        refine Eq.trans (jr_s (pc2 := 10) (lv2 := [(0, .long 22), (2, .long 0), (4, .long 17)]) (st2 := [.int 1]) jF_232_9 rfl rfl) ?_
        refine Eq.trans (jr_if1 jF_232_10 (by decide +kernel)) ?_
        refine Eq.trans (jr_s (pc2 := 18) (lv2 := [(0, .long 22), (2, .long 0), (4, .long 17)]) (st2 := [.int 0]) jF_232_17 rfl rfl) ?_
        exact jr_ri jF_232_18 rfl
      refine Eq.trans (jr_if1 jF_267_9 (by decide +kernel)) ?_
      refine Eq.trans (jr_s (pc2 := 23) (lv2 := [(0, .ref 117), (1, .int 22)]) (st2 := [.int 22]) jF_267_22 rfl rfl) ?_
      refine Eq.trans (jr_s (pc2 := 25) (lv2 := [(0, .ref 117), (1, .int 22)]) (st2 := [.int 20, .int 22]) jF_267_23 rfl rfl) ?_
      refine Eq.trans (jr_s (pc2 := 26) (lv2 := [(0, .ref 117), (1, .int 22)]) (st2 := [.int 2]) jF_267_25 rfl rfl) ?_
      refine Eq.trans (jr_s (pc2 := 27) (lv2 := [(0, .ref 117), (1, .int 22)]) (st2 := [.long 2]) jF_267_26 rfl rfl) ?_
      refine Eq.trans (jr_s (pc2 := 28) (lv2 := [(0, .ref 117), (1, .int 22)]) (st2 := [.long 0, .long 2]) jF_267_27 rfl rfl) ?_
      refine Eq.trans (jr_s (pc2 := 29) (lv2 := [(0, .ref 117), (1, .int 22)]) (st2 := [.ref 117, .long 0, .long 2]) jF_267_28 rfl rfl) ?_
      refine Eq.trans (jr_gf (v := .int 0) jF_267_29 (by decide +kernel)) ?_
      refine Eq.trans (jr_s (pc2 := 33) (lv2 := [(0, .ref 117), (1, .int 22)]) (st2 := [.int 1, .int 0, .long 0, .long 2]) jF_267_32 rfl rfl) ?_
      refine Eq.trans (jr_s (pc2 := 34) (lv2 := [(0, .ref 117), (1, .int 22)]) (st2 := [.int (-1), .long 0, .long 2]) jF_267_33 rfl rfl) ?_
      refine Eq.trans (jr_s (pc2 := 35) (lv2 := [(0, .ref 117), (1, .int 22)]) (st2 := [.long (-1), .long 0, .long 2]) jF_267_34 rfl rfl) ?_
      refine Eq.trans (jr_cS (as := [.long 2, .long 0, .long (-1)]) (rest := []) (v := some (.int 0)) (hp2 := jh2) (fr2 := 498) (lo2 := 19954) jF_267_35 rfl (show j_cnd 499 19979 498 19954 6 _ _ = true from rfl) ?_) ?_
      · refine Eq.trans (jr_s (pc2 := 1) (lv2 := [(0, .long 2), (2, .long 0), (4, .long (-1))]) (st2 := [.long 2]) jF_232_0 rfl rfl) ?_
        refine Eq.trans (jr_s (pc2 := 2) (lv2 := [(0, .long 2), (2, .long 0), (4, .long (-1))]) (st2 := [.long 0, .long 2]) jF_232_1 rfl rfl) ?_
        refine Eq.trans (jr_s (pc2 := 3) (lv2 := [(0, .long 2), (2, .long 0), (4, .long (-1))]) (st2 := [.int 1]) jF_232_2 rfl rfl) ?_
        refine Eq.trans (jr_if0 jF_232_3 (by decide +kernel)) ?_
        refine Eq.trans (jr_s (pc2 := 7) (lv2 := [(0, .long 2), (2, .long 0), (4, .long (-1))]) (st2 := [.long 2]) jF_232_6 rfl rfl) ?_
        refine Eq.trans (jr_s (pc2 := 9) (lv2 := [(0, .long 2), (2, .long 0), (4, .long (-1))]) (st2 := [.long (-1), .long 2]) jF_232_7 rfl rfl) ?_
        refine Eq.trans (jr_s (pc2 := 10) (lv2 := [(0, .long 2), (2, .long 0), (4, .long (-1))]) (st2 := [.int 1]) jF_232_9 rfl rfl) ?_
        refine Eq.trans (jr_if1 jF_232_10 (by decide +kernel)) ?_
        refine Eq.trans (jr_s (pc2 := 18) (lv2 := [(0, .long 2), (2, .long 0), (4, .long (-1))]) (st2 := [.int 0]) jF_232_17 rfl rfl) ?_
        exact jr_ri jF_232_18 rfl
      refine Eq.trans (jr_if1 jF_267_38 (by decide +kernel)) ?_
      refine Eq.trans (jr_s (pc2 := 56) (lv2 := [(0, .ref 117), (1, .int 22)]) (st2 := [.long 0]) jF_267_55 rfl rfl) ?_
      exact jr_rl jF_267_56
    refine Eq.trans (jr_s (pc2 := 6) (lv2 := [(3, .long 0), (0, .ref 117), (1, .int 22), (2, .int a2)]) (st2 := []) jF_266_5 rfl rfl) ?_
    refine Eq.trans (jr_s (pc2 := 7) (lv2 := [(3, .long 0), (0, .ref 117), (1, .int 22), (2, .int a2)]) (st2 := [.long 0]) jF_266_6 rfl rfl) ?_
    refine Eq.trans (jr_s (pc2 := 8) (lv2 := [(3, .long 0), (0, .ref 117), (1, .int 22), (2, .int a2)]) (st2 := [.long 0, .long 0]) jF_266_7 rfl rfl) ?_
    refine Eq.trans (jr_s (pc2 := 9) (lv2 := [(3, .long 0), (0, .ref 117), (1, .int 22), (2, .int a2)]) (st2 := [.int 0]) jF_266_8 rfl rfl) ?_
    refine Eq.trans (jr_if1 jF_266_9 (by decide +kernel)) ?_
    refine Eq.trans (jr_s (pc2 := 25) (lv2 := [(3, .long 0), (0, .ref 117), (1, .int 22), (2, .int a2)]) (st2 := [.int (-1)]) jF_266_24 rfl rfl) ?_
    exact jr_ri jF_266_25 rfl
set_option maxHeartbeats 8000000 in
set_option maxRecDepth 100000 in
theorem pm_letter_L69 (a2 : Int32) (hl_a2 : 0 ≤ a2.toInt) (hh_a2 : a2.toInt ≤ 5) : PM 92 266 [.int 23, .int a2] := by
  refine ⟨60000, 60000, (-1), jh2, jh2, ?_, ?_, by decide +kernel⟩
  · refine Eq.trans (jr_s (pc2 := 1) (lv2 := [(0, .ref 9), (1, .int 23), (2, .int a2)]) (st2 := [.ref 9]) jF_92_0 rfl rfl) ?_
    refine Eq.trans (jr_gf (v := .ref 20) jF_92_1 (by decide +kernel)) ?_
    refine Eq.trans (jr_s (pc2 := 5) (lv2 := [(0, .ref 9), (1, .int 23), (2, .int a2)]) (st2 := [.int 23, .ref 20]) jF_92_4 rfl rfl) ?_
    refine Eq.trans (jr_s (pc2 := 6) (lv2 := [(0, .ref 9), (1, .int 23), (2, .int a2)]) (st2 := [.int a2, .int 23, .ref 20]) jF_92_5 rfl rfl) ?_
    refine Eq.trans (jr_cV (a := 20) (as := [.int 23, .int a2]) (rest := []) (v := some (.int (-1))) (hp2 := jh2) (fr2 := 499) (lo2 := 19978) jF_92_6 (by decide +kernel) rfl (show j_cnd 500 20000 499 19978 3 _ _ = true from rfl) ?_) ?_
    · refine Eq.trans (jr_s (pc2 := 1) (lv2 := [(0, .ref 20), (1, .int 23), (2, .int a2)]) (st2 := [.int 23]) jF_93_0 rfl rfl) ?_
      refine Eq.trans (jr_if0 jF_93_1 (by decide +kernel)) ?_
      refine Eq.trans (jr_s (pc2 := 5) (lv2 := [(0, .ref 20), (1, .int 23), (2, .int a2)]) (st2 := [.int 23]) jF_93_4 rfl rfl) ?_
      refine Eq.trans (jr_s (pc2 := 6) (lv2 := [(0, .ref 20), (1, .int 23), (2, .int a2)]) (st2 := [.ref 20, .int 23]) jF_93_5 rfl rfl) ?_
      refine Eq.trans (jr_gf (v := .ref 21) jF_93_6 (by decide +kernel)) ?_
      refine Eq.trans (jr_al (v := 25) jF_93_9 (by decide +kernel)) ?_
      refine Eq.trans (jr_ic0 jF_93_10 (by decide +kernel)) ?_
      refine Eq.trans (jr_s (pc2 := 14) (lv2 := [(0, .ref 20), (1, .int 23), (2, .int a2)]) (st2 := [.int a2]) jF_93_13 rfl rfl) ?_
      refine Eq.trans (jr_if0 jF_93_14 (jk_lt_ge (show (0 : Int32).toInt ≤ (a2 : Int32).toInt by rw [show (0 : Int32).toInt = 0 from by decide]; omega))) ?_
      refine Eq.trans (jr_s (pc2 := 18) (lv2 := [(0, .ref 20), (1, .int 23), (2, .int a2)]) (st2 := [.int a2]) jF_93_17 rfl rfl) ?_
      refine Eq.trans (jr_s (pc2 := 20) (lv2 := [(0, .ref 20), (1, .int 23), (2, .int a2)]) (st2 := [.int 6, .int a2]) jF_93_18 rfl rfl) ?_
      refine Eq.trans (jr_ic0 jF_93_20 (jk_ge_lt (show (a2 : Int32).toInt < (6 : Int32).toInt by rw [show (6 : Int32).toInt = 6 from by decide]; omega))) ?_
      refine Eq.trans (jr_s (pc2 := 24) (lv2 := [(0, .ref 20), (1, .int 23), (2, .int a2)]) (st2 := [.ref 20]) jF_93_23 rfl rfl) ?_
      refine Eq.trans (jr_gf (v := .ref 21) jF_93_24 (by decide +kernel)) ?_
      refine Eq.trans (jr_s (pc2 := 28) (lv2 := [(0, .ref 20), (1, .int 23), (2, .int a2)]) (st2 := [.int 23, .ref 21]) jF_93_27 rfl rfl) ?_
      refine Eq.trans (jr_ldi (v := .int 0) jF_93_28 (by decide +kernel)) ?_
      refine Eq.trans (jr_if0 jF_93_29 (by decide +kernel)) ?_
      refine Eq.trans (jr_s (pc2 := 33) (lv2 := [(0, .ref 20), (1, .int 23), (2, .int a2)]) (st2 := [.int (-1)]) jF_93_32 rfl rfl) ?_
      exact jr_ri jF_93_33 rfl
    exact jr_ri jF_92_9 rfl
  · refine Eq.trans (jr_s (pc2 := 1) (lv2 := [(0, .ref 117), (1, .int 23), (2, .int a2)]) (st2 := [.ref 117]) jF_266_0 rfl rfl) ?_
    refine Eq.trans (jr_s (pc2 := 2) (lv2 := [(0, .ref 117), (1, .int 23), (2, .int a2)]) (st2 := [.int 23, .ref 117]) jF_266_1 rfl rfl) ?_
    refine Eq.trans (jr_cV (a := 117) (as := [.int 23]) (rest := []) (v := some (.long 0)) (hp2 := jh2) (fr2 := 499) (lo2 := 19979) jF_266_2 (by decide +kernel) rfl (show j_cnd 500 20000 499 19979 2 _ _ = true from rfl) ?_) ?_
    · refine Eq.trans (jr_s (pc2 := 1) (lv2 := [(0, .ref 117), (1, .int 23)]) (st2 := [.int 23]) jF_267_0 rfl rfl) ?_
      refine Eq.trans (jr_s (pc2 := 2) (lv2 := [(0, .ref 117), (1, .int 23)]) (st2 := [.long 23]) jF_267_1 rfl rfl) ?_
      refine Eq.trans (jr_s (pc2 := 3) (lv2 := [(0, .ref 117), (1, .int 23)]) (st2 := [.long 0, .long 23]) jF_267_2 rfl rfl) ?_
      refine Eq.trans (jr_s (pc2 := 6) (lv2 := [(0, .ref 117), (1, .int 23)]) (st2 := [.long 17, .long 0, .long 23]) jF_267_3 rfl rfl) ?_
      refine Eq.trans (jr_cS (as := [.long 23, .long 0, .long 17]) (rest := []) (v := some (.int 0)) (hp2 := jh2) (fr2 := 498) (lo2 := 19954) jF_267_6 rfl (show j_cnd 499 19979 498 19954 6 _ _ = true from rfl) ?_) ?_
      · refine Eq.trans (jr_s (pc2 := 1) (lv2 := [(0, .long 23), (2, .long 0), (4, .long 17)]) (st2 := [.long 23]) jF_232_0 rfl rfl) ?_
        refine Eq.trans (jr_s (pc2 := 2) (lv2 := [(0, .long 23), (2, .long 0), (4, .long 17)]) (st2 := [.long 0, .long 23]) jF_232_1 rfl rfl) ?_
        refine Eq.trans (jr_s (pc2 := 3) (lv2 := [(0, .long 23), (2, .long 0), (4, .long 17)]) (st2 := [.int 1]) jF_232_2 rfl rfl) ?_
        refine Eq.trans (jr_if0 jF_232_3 (by decide +kernel)) ?_
        refine Eq.trans (jr_s (pc2 := 7) (lv2 := [(0, .long 23), (2, .long 0), (4, .long 17)]) (st2 := [.long 23]) jF_232_6 rfl rfl) ?_
        refine Eq.trans (jr_s (pc2 := 9) (lv2 := [(0, .long 23), (2, .long 0), (4, .long 17)]) (st2 := [.long 17, .long 23]) jF_232_7 rfl rfl) ?_
        refine Eq.trans (jr_s (pc2 := 10) (lv2 := [(0, .long 23), (2, .long 0), (4, .long 17)]) (st2 := [.int 1]) jF_232_9 rfl rfl) ?_
        refine Eq.trans (jr_if1 jF_232_10 (by decide +kernel)) ?_
        refine Eq.trans (jr_s (pc2 := 18) (lv2 := [(0, .long 23), (2, .long 0), (4, .long 17)]) (st2 := [.int 0]) jF_232_17 rfl rfl) ?_
        exact jr_ri jF_232_18 rfl
      refine Eq.trans (jr_if1 jF_267_9 (by decide +kernel)) ?_
      refine Eq.trans (jr_s (pc2 := 23) (lv2 := [(0, .ref 117), (1, .int 23)]) (st2 := [.int 23]) jF_267_22 rfl rfl) ?_
      refine Eq.trans (jr_s (pc2 := 25) (lv2 := [(0, .ref 117), (1, .int 23)]) (st2 := [.int 20, .int 23]) jF_267_23 rfl rfl) ?_
      refine Eq.trans (jr_s (pc2 := 26) (lv2 := [(0, .ref 117), (1, .int 23)]) (st2 := [.int 3]) jF_267_25 rfl rfl) ?_
      refine Eq.trans (jr_s (pc2 := 27) (lv2 := [(0, .ref 117), (1, .int 23)]) (st2 := [.long 3]) jF_267_26 rfl rfl) ?_
      refine Eq.trans (jr_s (pc2 := 28) (lv2 := [(0, .ref 117), (1, .int 23)]) (st2 := [.long 0, .long 3]) jF_267_27 rfl rfl) ?_
      refine Eq.trans (jr_s (pc2 := 29) (lv2 := [(0, .ref 117), (1, .int 23)]) (st2 := [.ref 117, .long 0, .long 3]) jF_267_28 rfl rfl) ?_
      refine Eq.trans (jr_gf (v := .int 0) jF_267_29 (by decide +kernel)) ?_
      refine Eq.trans (jr_s (pc2 := 33) (lv2 := [(0, .ref 117), (1, .int 23)]) (st2 := [.int 1, .int 0, .long 0, .long 3]) jF_267_32 rfl rfl) ?_
      refine Eq.trans (jr_s (pc2 := 34) (lv2 := [(0, .ref 117), (1, .int 23)]) (st2 := [.int (-1), .long 0, .long 3]) jF_267_33 rfl rfl) ?_
      refine Eq.trans (jr_s (pc2 := 35) (lv2 := [(0, .ref 117), (1, .int 23)]) (st2 := [.long (-1), .long 0, .long 3]) jF_267_34 rfl rfl) ?_
      refine Eq.trans (jr_cS (as := [.long 3, .long 0, .long (-1)]) (rest := []) (v := some (.int 0)) (hp2 := jh2) (fr2 := 498) (lo2 := 19954) jF_267_35 rfl (show j_cnd 499 19979 498 19954 6 _ _ = true from rfl) ?_) ?_
      · refine Eq.trans (jr_s (pc2 := 1) (lv2 := [(0, .long 3), (2, .long 0), (4, .long (-1))]) (st2 := [.long 3]) jF_232_0 rfl rfl) ?_
        refine Eq.trans (jr_s (pc2 := 2) (lv2 := [(0, .long 3), (2, .long 0), (4, .long (-1))]) (st2 := [.long 0, .long 3]) jF_232_1 rfl rfl) ?_
        refine Eq.trans (jr_s (pc2 := 3) (lv2 := [(0, .long 3), (2, .long 0), (4, .long (-1))]) (st2 := [.int 1]) jF_232_2 rfl rfl) ?_
        refine Eq.trans (jr_if0 jF_232_3 (by decide +kernel)) ?_
        refine Eq.trans (jr_s (pc2 := 7) (lv2 := [(0, .long 3), (2, .long 0), (4, .long (-1))]) (st2 := [.long 3]) jF_232_6 rfl rfl) ?_
        refine Eq.trans (jr_s (pc2 := 9) (lv2 := [(0, .long 3), (2, .long 0), (4, .long (-1))]) (st2 := [.long (-1), .long 3]) jF_232_7 rfl rfl) ?_
        refine Eq.trans (jr_s (pc2 := 10) (lv2 := [(0, .long 3), (2, .long 0), (4, .long (-1))]) (st2 := [.int 1]) jF_232_9 rfl rfl) ?_
        refine Eq.trans (jr_if1 jF_232_10 (by decide +kernel)) ?_
        refine Eq.trans (jr_s (pc2 := 18) (lv2 := [(0, .long 3), (2, .long 0), (4, .long (-1))]) (st2 := [.int 0]) jF_232_17 rfl rfl) ?_
        exact jr_ri jF_232_18 rfl
      refine Eq.trans (jr_if1 jF_267_38 (by decide +kernel)) ?_
      refine Eq.trans (jr_s (pc2 := 56) (lv2 := [(0, .ref 117), (1, .int 23)]) (st2 := [.long 0]) jF_267_55 rfl rfl) ?_
      exact jr_rl jF_267_56
    refine Eq.trans (jr_s (pc2 := 6) (lv2 := [(3, .long 0), (0, .ref 117), (1, .int 23), (2, .int a2)]) (st2 := []) jF_266_5 rfl rfl) ?_
    refine Eq.trans (jr_s (pc2 := 7) (lv2 := [(3, .long 0), (0, .ref 117), (1, .int 23), (2, .int a2)]) (st2 := [.long 0]) jF_266_6 rfl rfl) ?_
    refine Eq.trans (jr_s (pc2 := 8) (lv2 := [(3, .long 0), (0, .ref 117), (1, .int 23), (2, .int a2)]) (st2 := [.long 0, .long 0]) jF_266_7 rfl rfl) ?_
    refine Eq.trans (jr_s (pc2 := 9) (lv2 := [(3, .long 0), (0, .ref 117), (1, .int 23), (2, .int a2)]) (st2 := [.int 0]) jF_266_8 rfl rfl) ?_
    refine Eq.trans (jr_if1 jF_266_9 (by decide +kernel)) ?_
    refine Eq.trans (jr_s (pc2 := 25) (lv2 := [(3, .long 0), (0, .ref 117), (1, .int 23), (2, .int a2)]) (st2 := [.int (-1)]) jF_266_24 rfl rfl) ?_
    exact jr_ri jF_266_25 rfl
set_option maxHeartbeats 8000000 in
set_option maxRecDepth 100000 in
theorem pm_letter_L70 (a2 : Int32) (hl_a2 : 0 ≤ a2.toInt) (hh_a2 : a2.toInt ≤ 5) : PM 92 266 [.int 24, .int a2] := by
  refine ⟨60000, 60000, (-1), jh2, jh2, ?_, ?_, by decide +kernel⟩
  · refine Eq.trans (jr_s (pc2 := 1) (lv2 := [(0, .ref 9), (1, .int 24), (2, .int a2)]) (st2 := [.ref 9]) jF_92_0 rfl rfl) ?_
    refine Eq.trans (jr_gf (v := .ref 20) jF_92_1 (by decide +kernel)) ?_
    refine Eq.trans (jr_s (pc2 := 5) (lv2 := [(0, .ref 9), (1, .int 24), (2, .int a2)]) (st2 := [.int 24, .ref 20]) jF_92_4 rfl rfl) ?_
    refine Eq.trans (jr_s (pc2 := 6) (lv2 := [(0, .ref 9), (1, .int 24), (2, .int a2)]) (st2 := [.int a2, .int 24, .ref 20]) jF_92_5 rfl rfl) ?_
    refine Eq.trans (jr_cV (a := 20) (as := [.int 24, .int a2]) (rest := []) (v := some (.int (-1))) (hp2 := jh2) (fr2 := 499) (lo2 := 19978) jF_92_6 (by decide +kernel) rfl (show j_cnd 500 20000 499 19978 3 _ _ = true from rfl) ?_) ?_
    · refine Eq.trans (jr_s (pc2 := 1) (lv2 := [(0, .ref 20), (1, .int 24), (2, .int a2)]) (st2 := [.int 24]) jF_93_0 rfl rfl) ?_
      refine Eq.trans (jr_if0 jF_93_1 (by decide +kernel)) ?_
      refine Eq.trans (jr_s (pc2 := 5) (lv2 := [(0, .ref 20), (1, .int 24), (2, .int a2)]) (st2 := [.int 24]) jF_93_4 rfl rfl) ?_
      refine Eq.trans (jr_s (pc2 := 6) (lv2 := [(0, .ref 20), (1, .int 24), (2, .int a2)]) (st2 := [.ref 20, .int 24]) jF_93_5 rfl rfl) ?_
      refine Eq.trans (jr_gf (v := .ref 21) jF_93_6 (by decide +kernel)) ?_
      refine Eq.trans (jr_al (v := 25) jF_93_9 (by decide +kernel)) ?_
      refine Eq.trans (jr_ic0 jF_93_10 (by decide +kernel)) ?_
      refine Eq.trans (jr_s (pc2 := 14) (lv2 := [(0, .ref 20), (1, .int 24), (2, .int a2)]) (st2 := [.int a2]) jF_93_13 rfl rfl) ?_
      refine Eq.trans (jr_if0 jF_93_14 (jk_lt_ge (show (0 : Int32).toInt ≤ (a2 : Int32).toInt by rw [show (0 : Int32).toInt = 0 from by decide]; omega))) ?_
      refine Eq.trans (jr_s (pc2 := 18) (lv2 := [(0, .ref 20), (1, .int 24), (2, .int a2)]) (st2 := [.int a2]) jF_93_17 rfl rfl) ?_
      refine Eq.trans (jr_s (pc2 := 20) (lv2 := [(0, .ref 20), (1, .int 24), (2, .int a2)]) (st2 := [.int 6, .int a2]) jF_93_18 rfl rfl) ?_
      refine Eq.trans (jr_ic0 jF_93_20 (jk_ge_lt (show (a2 : Int32).toInt < (6 : Int32).toInt by rw [show (6 : Int32).toInt = 6 from by decide]; omega))) ?_
      refine Eq.trans (jr_s (pc2 := 24) (lv2 := [(0, .ref 20), (1, .int 24), (2, .int a2)]) (st2 := [.ref 20]) jF_93_23 rfl rfl) ?_
      refine Eq.trans (jr_gf (v := .ref 21) jF_93_24 (by decide +kernel)) ?_
      refine Eq.trans (jr_s (pc2 := 28) (lv2 := [(0, .ref 20), (1, .int 24), (2, .int a2)]) (st2 := [.int 24, .ref 21]) jF_93_27 rfl rfl) ?_
      refine Eq.trans (jr_ldi (v := .int 0) jF_93_28 (by decide +kernel)) ?_
      refine Eq.trans (jr_if0 jF_93_29 (by decide +kernel)) ?_
      refine Eq.trans (jr_s (pc2 := 33) (lv2 := [(0, .ref 20), (1, .int 24), (2, .int a2)]) (st2 := [.int (-1)]) jF_93_32 rfl rfl) ?_
      exact jr_ri jF_93_33 rfl
    exact jr_ri jF_92_9 rfl
  · refine Eq.trans (jr_s (pc2 := 1) (lv2 := [(0, .ref 117), (1, .int 24), (2, .int a2)]) (st2 := [.ref 117]) jF_266_0 rfl rfl) ?_
    refine Eq.trans (jr_s (pc2 := 2) (lv2 := [(0, .ref 117), (1, .int 24), (2, .int a2)]) (st2 := [.int 24, .ref 117]) jF_266_1 rfl rfl) ?_
    refine Eq.trans (jr_cV (a := 117) (as := [.int 24]) (rest := []) (v := some (.long 0)) (hp2 := jh2) (fr2 := 499) (lo2 := 19979) jF_266_2 (by decide +kernel) rfl (show j_cnd 500 20000 499 19979 2 _ _ = true from rfl) ?_) ?_
    · refine Eq.trans (jr_s (pc2 := 1) (lv2 := [(0, .ref 117), (1, .int 24)]) (st2 := [.int 24]) jF_267_0 rfl rfl) ?_
      refine Eq.trans (jr_s (pc2 := 2) (lv2 := [(0, .ref 117), (1, .int 24)]) (st2 := [.long 24]) jF_267_1 rfl rfl) ?_
      refine Eq.trans (jr_s (pc2 := 3) (lv2 := [(0, .ref 117), (1, .int 24)]) (st2 := [.long 0, .long 24]) jF_267_2 rfl rfl) ?_
      refine Eq.trans (jr_s (pc2 := 6) (lv2 := [(0, .ref 117), (1, .int 24)]) (st2 := [.long 17, .long 0, .long 24]) jF_267_3 rfl rfl) ?_
      refine Eq.trans (jr_cS (as := [.long 24, .long 0, .long 17]) (rest := []) (v := some (.int 0)) (hp2 := jh2) (fr2 := 498) (lo2 := 19954) jF_267_6 rfl (show j_cnd 499 19979 498 19954 6 _ _ = true from rfl) ?_) ?_
      · refine Eq.trans (jr_s (pc2 := 1) (lv2 := [(0, .long 24), (2, .long 0), (4, .long 17)]) (st2 := [.long 24]) jF_232_0 rfl rfl) ?_
        refine Eq.trans (jr_s (pc2 := 2) (lv2 := [(0, .long 24), (2, .long 0), (4, .long 17)]) (st2 := [.long 0, .long 24]) jF_232_1 rfl rfl) ?_
        refine Eq.trans (jr_s (pc2 := 3) (lv2 := [(0, .long 24), (2, .long 0), (4, .long 17)]) (st2 := [.int 1]) jF_232_2 rfl rfl) ?_
        refine Eq.trans (jr_if0 jF_232_3 (by decide +kernel)) ?_
        refine Eq.trans (jr_s (pc2 := 7) (lv2 := [(0, .long 24), (2, .long 0), (4, .long 17)]) (st2 := [.long 24]) jF_232_6 rfl rfl) ?_
        refine Eq.trans (jr_s (pc2 := 9) (lv2 := [(0, .long 24), (2, .long 0), (4, .long 17)]) (st2 := [.long 17, .long 24]) jF_232_7 rfl rfl) ?_
        refine Eq.trans (jr_s (pc2 := 10) (lv2 := [(0, .long 24), (2, .long 0), (4, .long 17)]) (st2 := [.int 1]) jF_232_9 rfl rfl) ?_
        refine Eq.trans (jr_if1 jF_232_10 (by decide +kernel)) ?_
        refine Eq.trans (jr_s (pc2 := 18) (lv2 := [(0, .long 24), (2, .long 0), (4, .long 17)]) (st2 := [.int 0]) jF_232_17 rfl rfl) ?_
        exact jr_ri jF_232_18 rfl
      refine Eq.trans (jr_if1 jF_267_9 (by decide +kernel)) ?_
      refine Eq.trans (jr_s (pc2 := 23) (lv2 := [(0, .ref 117), (1, .int 24)]) (st2 := [.int 24]) jF_267_22 rfl rfl) ?_
      refine Eq.trans (jr_s (pc2 := 25) (lv2 := [(0, .ref 117), (1, .int 24)]) (st2 := [.int 20, .int 24]) jF_267_23 rfl rfl) ?_
      refine Eq.trans (jr_s (pc2 := 26) (lv2 := [(0, .ref 117), (1, .int 24)]) (st2 := [.int 4]) jF_267_25 rfl rfl) ?_
      refine Eq.trans (jr_s (pc2 := 27) (lv2 := [(0, .ref 117), (1, .int 24)]) (st2 := [.long 4]) jF_267_26 rfl rfl) ?_
      refine Eq.trans (jr_s (pc2 := 28) (lv2 := [(0, .ref 117), (1, .int 24)]) (st2 := [.long 0, .long 4]) jF_267_27 rfl rfl) ?_
      refine Eq.trans (jr_s (pc2 := 29) (lv2 := [(0, .ref 117), (1, .int 24)]) (st2 := [.ref 117, .long 0, .long 4]) jF_267_28 rfl rfl) ?_
      refine Eq.trans (jr_gf (v := .int 0) jF_267_29 (by decide +kernel)) ?_
      refine Eq.trans (jr_s (pc2 := 33) (lv2 := [(0, .ref 117), (1, .int 24)]) (st2 := [.int 1, .int 0, .long 0, .long 4]) jF_267_32 rfl rfl) ?_
      refine Eq.trans (jr_s (pc2 := 34) (lv2 := [(0, .ref 117), (1, .int 24)]) (st2 := [.int (-1), .long 0, .long 4]) jF_267_33 rfl rfl) ?_
      refine Eq.trans (jr_s (pc2 := 35) (lv2 := [(0, .ref 117), (1, .int 24)]) (st2 := [.long (-1), .long 0, .long 4]) jF_267_34 rfl rfl) ?_
      refine Eq.trans (jr_cS (as := [.long 4, .long 0, .long (-1)]) (rest := []) (v := some (.int 0)) (hp2 := jh2) (fr2 := 498) (lo2 := 19954) jF_267_35 rfl (show j_cnd 499 19979 498 19954 6 _ _ = true from rfl) ?_) ?_
      · refine Eq.trans (jr_s (pc2 := 1) (lv2 := [(0, .long 4), (2, .long 0), (4, .long (-1))]) (st2 := [.long 4]) jF_232_0 rfl rfl) ?_
        refine Eq.trans (jr_s (pc2 := 2) (lv2 := [(0, .long 4), (2, .long 0), (4, .long (-1))]) (st2 := [.long 0, .long 4]) jF_232_1 rfl rfl) ?_
        refine Eq.trans (jr_s (pc2 := 3) (lv2 := [(0, .long 4), (2, .long 0), (4, .long (-1))]) (st2 := [.int 1]) jF_232_2 rfl rfl) ?_
        refine Eq.trans (jr_if0 jF_232_3 (by decide +kernel)) ?_
        refine Eq.trans (jr_s (pc2 := 7) (lv2 := [(0, .long 4), (2, .long 0), (4, .long (-1))]) (st2 := [.long 4]) jF_232_6 rfl rfl) ?_
        refine Eq.trans (jr_s (pc2 := 9) (lv2 := [(0, .long 4), (2, .long 0), (4, .long (-1))]) (st2 := [.long (-1), .long 4]) jF_232_7 rfl rfl) ?_
        refine Eq.trans (jr_s (pc2 := 10) (lv2 := [(0, .long 4), (2, .long 0), (4, .long (-1))]) (st2 := [.int 1]) jF_232_9 rfl rfl) ?_
        refine Eq.trans (jr_if1 jF_232_10 (by decide +kernel)) ?_
        refine Eq.trans (jr_s (pc2 := 18) (lv2 := [(0, .long 4), (2, .long 0), (4, .long (-1))]) (st2 := [.int 0]) jF_232_17 rfl rfl) ?_
        exact jr_ri jF_232_18 rfl
      refine Eq.trans (jr_if1 jF_267_38 (by decide +kernel)) ?_
      refine Eq.trans (jr_s (pc2 := 56) (lv2 := [(0, .ref 117), (1, .int 24)]) (st2 := [.long 0]) jF_267_55 rfl rfl) ?_
      exact jr_rl jF_267_56
    refine Eq.trans (jr_s (pc2 := 6) (lv2 := [(3, .long 0), (0, .ref 117), (1, .int 24), (2, .int a2)]) (st2 := []) jF_266_5 rfl rfl) ?_
    refine Eq.trans (jr_s (pc2 := 7) (lv2 := [(3, .long 0), (0, .ref 117), (1, .int 24), (2, .int a2)]) (st2 := [.long 0]) jF_266_6 rfl rfl) ?_
    refine Eq.trans (jr_s (pc2 := 8) (lv2 := [(3, .long 0), (0, .ref 117), (1, .int 24), (2, .int a2)]) (st2 := [.long 0, .long 0]) jF_266_7 rfl rfl) ?_
    refine Eq.trans (jr_s (pc2 := 9) (lv2 := [(3, .long 0), (0, .ref 117), (1, .int 24), (2, .int a2)]) (st2 := [.int 0]) jF_266_8 rfl rfl) ?_
    refine Eq.trans (jr_if1 jF_266_9 (by decide +kernel)) ?_
    refine Eq.trans (jr_s (pc2 := 25) (lv2 := [(3, .long 0), (0, .ref 117), (1, .int 24), (2, .int a2)]) (st2 := [.int (-1)]) jF_266_24 rfl rfl) ?_
    exact jr_ri jF_266_25 rfl
set_option maxHeartbeats 8000000 in
set_option maxRecDepth 100000 in
theorem pm_letter_L71 (a2 : Int32) (hl_a2 : 6 ≤ a2.toInt) (hh_a2 : a2.toInt ≤ 2147483647) : PM 92 266 [.int 0, .int a2] := by
  refine ⟨60000, 60000, (-1), jh2, jh2, ?_, ?_, by decide +kernel⟩
  · refine Eq.trans (jr_s (pc2 := 1) (lv2 := [(0, .ref 9), (1, .int 0), (2, .int a2)]) (st2 := [.ref 9]) jF_92_0 rfl rfl) ?_
    refine Eq.trans (jr_gf (v := .ref 20) jF_92_1 (by decide +kernel)) ?_
    refine Eq.trans (jr_s (pc2 := 5) (lv2 := [(0, .ref 9), (1, .int 0), (2, .int a2)]) (st2 := [.int 0, .ref 20]) jF_92_4 rfl rfl) ?_
    refine Eq.trans (jr_s (pc2 := 6) (lv2 := [(0, .ref 9), (1, .int 0), (2, .int a2)]) (st2 := [.int a2, .int 0, .ref 20]) jF_92_5 rfl rfl) ?_
    refine Eq.trans (jr_cV (a := 20) (as := [.int 0, .int a2]) (rest := []) (v := some (.int (-1))) (hp2 := jh2) (fr2 := 499) (lo2 := 19978) jF_92_6 (by decide +kernel) rfl (show j_cnd 500 20000 499 19978 3 _ _ = true from rfl) ?_) ?_
    · refine Eq.trans (jr_s (pc2 := 1) (lv2 := [(0, .ref 20), (1, .int 0), (2, .int a2)]) (st2 := [.int 0]) jF_93_0 rfl rfl) ?_
      refine Eq.trans (jr_if0 jF_93_1 (by decide +kernel)) ?_
      refine Eq.trans (jr_s (pc2 := 5) (lv2 := [(0, .ref 20), (1, .int 0), (2, .int a2)]) (st2 := [.int 0]) jF_93_4 rfl rfl) ?_
      refine Eq.trans (jr_s (pc2 := 6) (lv2 := [(0, .ref 20), (1, .int 0), (2, .int a2)]) (st2 := [.ref 20, .int 0]) jF_93_5 rfl rfl) ?_
      refine Eq.trans (jr_gf (v := .ref 21) jF_93_6 (by decide +kernel)) ?_
      refine Eq.trans (jr_al (v := 25) jF_93_9 (by decide +kernel)) ?_
      refine Eq.trans (jr_ic0 jF_93_10 (by decide +kernel)) ?_
      refine Eq.trans (jr_s (pc2 := 14) (lv2 := [(0, .ref 20), (1, .int 0), (2, .int a2)]) (st2 := [.int a2]) jF_93_13 rfl rfl) ?_
      refine Eq.trans (jr_if0 jF_93_14 (jk_lt_ge (show (0 : Int32).toInt ≤ (a2 : Int32).toInt by rw [show (0 : Int32).toInt = 0 from by decide]; omega))) ?_
      refine Eq.trans (jr_s (pc2 := 18) (lv2 := [(0, .ref 20), (1, .int 0), (2, .int a2)]) (st2 := [.int a2]) jF_93_17 rfl rfl) ?_
      refine Eq.trans (jr_s (pc2 := 20) (lv2 := [(0, .ref 20), (1, .int 0), (2, .int a2)]) (st2 := [.int 6, .int a2]) jF_93_18 rfl rfl) ?_
      refine Eq.trans (jr_ic1 jF_93_20 (jk_ge_ge (show (6 : Int32).toInt ≤ (a2 : Int32).toInt by rw [show (6 : Int32).toInt = 6 from by decide]; omega))) ?_
      refine Eq.trans (jr_s (pc2 := 33) (lv2 := [(0, .ref 20), (1, .int 0), (2, .int a2)]) (st2 := [.int (-1)]) jF_93_32 rfl rfl) ?_
      exact jr_ri jF_93_33 rfl
    exact jr_ri jF_92_9 rfl
  · refine Eq.trans (jr_s (pc2 := 1) (lv2 := [(0, .ref 117), (1, .int 0), (2, .int a2)]) (st2 := [.ref 117]) jF_266_0 rfl rfl) ?_
    refine Eq.trans (jr_s (pc2 := 2) (lv2 := [(0, .ref 117), (1, .int 0), (2, .int a2)]) (st2 := [.int 0, .ref 117]) jF_266_1 rfl rfl) ?_
    refine Eq.trans (jr_cV (a := 117) (as := [.int 0]) (rest := []) (v := some (.long 0)) (hp2 := jh2) (fr2 := 499) (lo2 := 19979) jF_266_2 (by decide +kernel) rfl (show j_cnd 500 20000 499 19979 2 _ _ = true from rfl) ?_) ?_
    · refine Eq.trans (jr_s (pc2 := 1) (lv2 := [(0, .ref 117), (1, .int 0)]) (st2 := [.int 0]) jF_267_0 rfl rfl) ?_
      refine Eq.trans (jr_s (pc2 := 2) (lv2 := [(0, .ref 117), (1, .int 0)]) (st2 := [.long 0]) jF_267_1 rfl rfl) ?_
      refine Eq.trans (jr_s (pc2 := 3) (lv2 := [(0, .ref 117), (1, .int 0)]) (st2 := [.long 0, .long 0]) jF_267_2 rfl rfl) ?_
      refine Eq.trans (jr_s (pc2 := 6) (lv2 := [(0, .ref 117), (1, .int 0)]) (st2 := [.long 17, .long 0, .long 0]) jF_267_3 rfl rfl) ?_
      refine Eq.trans (jr_cS (as := [.long 0, .long 0, .long 17]) (rest := []) (v := some (.int 1)) (hp2 := jh2) (fr2 := 498) (lo2 := 19954) jF_267_6 rfl (show j_cnd 499 19979 498 19954 6 _ _ = true from rfl) ?_) ?_
      · refine Eq.trans (jr_s (pc2 := 1) (lv2 := [(0, .long 0), (2, .long 0), (4, .long 17)]) (st2 := [.long 0]) jF_232_0 rfl rfl) ?_
        refine Eq.trans (jr_s (pc2 := 2) (lv2 := [(0, .long 0), (2, .long 0), (4, .long 17)]) (st2 := [.long 0, .long 0]) jF_232_1 rfl rfl) ?_
        refine Eq.trans (jr_s (pc2 := 3) (lv2 := [(0, .long 0), (2, .long 0), (4, .long 17)]) (st2 := [.int 0]) jF_232_2 rfl rfl) ?_
        refine Eq.trans (jr_if0 jF_232_3 (by decide +kernel)) ?_
        refine Eq.trans (jr_s (pc2 := 7) (lv2 := [(0, .long 0), (2, .long 0), (4, .long 17)]) (st2 := [.long 0]) jF_232_6 rfl rfl) ?_
        refine Eq.trans (jr_s (pc2 := 9) (lv2 := [(0, .long 0), (2, .long 0), (4, .long 17)]) (st2 := [.long 17, .long 0]) jF_232_7 rfl rfl) ?_
        refine Eq.trans (jr_s (pc2 := 10) (lv2 := [(0, .long 0), (2, .long 0), (4, .long 17)]) (st2 := [.int (-1)]) jF_232_9 rfl rfl) ?_
        refine Eq.trans (jr_if0 jF_232_10 (by decide +kernel)) ?_
        refine Eq.trans (jr_s (pc2 := 14) (lv2 := [(0, .long 0), (2, .long 0), (4, .long 17)]) (st2 := [.int 1]) jF_232_13 rfl rfl) ?_
        refine Eq.trans (jr_s (pc2 := 18) (lv2 := [(0, .long 0), (2, .long 0), (4, .long 17)]) (st2 := [.int 1]) jF_232_14 rfl rfl) ?_
        exact jr_ri jF_232_18 rfl
      refine Eq.trans (jr_if0 jF_267_9 (by decide +kernel)) ?_
      refine Eq.trans (jr_s (pc2 := 13) (lv2 := [(0, .ref 117), (1, .int 0)]) (st2 := [.ref 117]) jF_267_12 rfl rfl) ?_
      refine Eq.trans (jr_gf (v := .ref 138) jF_267_13 (by decide +kernel)) ?_
      refine Eq.trans (jr_s (pc2 := 18) (lv2 := [(0, .ref 117), (1, .int 0)]) (st2 := [.int 18, .ref 138]) jF_267_16 rfl rfl) ?_
      refine Eq.trans (jr_s (pc2 := 19) (lv2 := [(0, .ref 117), (1, .int 0)]) (st2 := [.int 0, .int 18, .ref 138]) jF_267_18 rfl rfl) ?_
      refine Eq.trans (jr_s (pc2 := 20) (lv2 := [(0, .ref 117), (1, .int 0)]) (st2 := [.int 18, .ref 138]) jF_267_19 rfl rfl) ?_
      refine Eq.trans (jr_ldl (v := .long 0) jF_267_20 (by decide +kernel)) ?_
      exact jr_rl jF_267_21
    refine Eq.trans (jr_s (pc2 := 6) (lv2 := [(3, .long 0), (0, .ref 117), (1, .int 0), (2, .int a2)]) (st2 := []) jF_266_5 rfl rfl) ?_
    refine Eq.trans (jr_s (pc2 := 7) (lv2 := [(3, .long 0), (0, .ref 117), (1, .int 0), (2, .int a2)]) (st2 := [.long 0]) jF_266_6 rfl rfl) ?_
    refine Eq.trans (jr_s (pc2 := 8) (lv2 := [(3, .long 0), (0, .ref 117), (1, .int 0), (2, .int a2)]) (st2 := [.long 0, .long 0]) jF_266_7 rfl rfl) ?_
    refine Eq.trans (jr_s (pc2 := 9) (lv2 := [(3, .long 0), (0, .ref 117), (1, .int 0), (2, .int a2)]) (st2 := [.int 0]) jF_266_8 rfl rfl) ?_
    refine Eq.trans (jr_if1 jF_266_9 (by decide +kernel)) ?_
    refine Eq.trans (jr_s (pc2 := 25) (lv2 := [(3, .long 0), (0, .ref 117), (1, .int 0), (2, .int a2)]) (st2 := [.int (-1)]) jF_266_24 rfl rfl) ?_
    exact jr_ri jF_266_25 rfl
set_option maxHeartbeats 8000000 in
set_option maxRecDepth 100000 in
theorem pm_letter_L72 (a2 : Int32) (hl_a2 : 6 ≤ a2.toInt) (hh_a2 : a2.toInt ≤ 2147483647) : PM 92 266 [.int 1, .int a2] := by
  refine ⟨60000, 60000, (-1), jh2, jh2, ?_, ?_, by decide +kernel⟩
  · refine Eq.trans (jr_s (pc2 := 1) (lv2 := [(0, .ref 9), (1, .int 1), (2, .int a2)]) (st2 := [.ref 9]) jF_92_0 rfl rfl) ?_
    refine Eq.trans (jr_gf (v := .ref 20) jF_92_1 (by decide +kernel)) ?_
    refine Eq.trans (jr_s (pc2 := 5) (lv2 := [(0, .ref 9), (1, .int 1), (2, .int a2)]) (st2 := [.int 1, .ref 20]) jF_92_4 rfl rfl) ?_
    refine Eq.trans (jr_s (pc2 := 6) (lv2 := [(0, .ref 9), (1, .int 1), (2, .int a2)]) (st2 := [.int a2, .int 1, .ref 20]) jF_92_5 rfl rfl) ?_
    refine Eq.trans (jr_cV (a := 20) (as := [.int 1, .int a2]) (rest := []) (v := some (.int (-1))) (hp2 := jh2) (fr2 := 499) (lo2 := 19978) jF_92_6 (by decide +kernel) rfl (show j_cnd 500 20000 499 19978 3 _ _ = true from rfl) ?_) ?_
    · refine Eq.trans (jr_s (pc2 := 1) (lv2 := [(0, .ref 20), (1, .int 1), (2, .int a2)]) (st2 := [.int 1]) jF_93_0 rfl rfl) ?_
      refine Eq.trans (jr_if0 jF_93_1 (by decide +kernel)) ?_
      refine Eq.trans (jr_s (pc2 := 5) (lv2 := [(0, .ref 20), (1, .int 1), (2, .int a2)]) (st2 := [.int 1]) jF_93_4 rfl rfl) ?_
      refine Eq.trans (jr_s (pc2 := 6) (lv2 := [(0, .ref 20), (1, .int 1), (2, .int a2)]) (st2 := [.ref 20, .int 1]) jF_93_5 rfl rfl) ?_
      refine Eq.trans (jr_gf (v := .ref 21) jF_93_6 (by decide +kernel)) ?_
      refine Eq.trans (jr_al (v := 25) jF_93_9 (by decide +kernel)) ?_
      refine Eq.trans (jr_ic0 jF_93_10 (by decide +kernel)) ?_
      refine Eq.trans (jr_s (pc2 := 14) (lv2 := [(0, .ref 20), (1, .int 1), (2, .int a2)]) (st2 := [.int a2]) jF_93_13 rfl rfl) ?_
      refine Eq.trans (jr_if0 jF_93_14 (jk_lt_ge (show (0 : Int32).toInt ≤ (a2 : Int32).toInt by rw [show (0 : Int32).toInt = 0 from by decide]; omega))) ?_
      refine Eq.trans (jr_s (pc2 := 18) (lv2 := [(0, .ref 20), (1, .int 1), (2, .int a2)]) (st2 := [.int a2]) jF_93_17 rfl rfl) ?_
      refine Eq.trans (jr_s (pc2 := 20) (lv2 := [(0, .ref 20), (1, .int 1), (2, .int a2)]) (st2 := [.int 6, .int a2]) jF_93_18 rfl rfl) ?_
      refine Eq.trans (jr_ic1 jF_93_20 (jk_ge_ge (show (6 : Int32).toInt ≤ (a2 : Int32).toInt by rw [show (6 : Int32).toInt = 6 from by decide]; omega))) ?_
      refine Eq.trans (jr_s (pc2 := 33) (lv2 := [(0, .ref 20), (1, .int 1), (2, .int a2)]) (st2 := [.int (-1)]) jF_93_32 rfl rfl) ?_
      exact jr_ri jF_93_33 rfl
    exact jr_ri jF_92_9 rfl
  · refine Eq.trans (jr_s (pc2 := 1) (lv2 := [(0, .ref 117), (1, .int 1), (2, .int a2)]) (st2 := [.ref 117]) jF_266_0 rfl rfl) ?_
    refine Eq.trans (jr_s (pc2 := 2) (lv2 := [(0, .ref 117), (1, .int 1), (2, .int a2)]) (st2 := [.int 1, .ref 117]) jF_266_1 rfl rfl) ?_
    refine Eq.trans (jr_cV (a := 117) (as := [.int 1]) (rest := []) (v := some (.long 0)) (hp2 := jh2) (fr2 := 499) (lo2 := 19979) jF_266_2 (by decide +kernel) rfl (show j_cnd 500 20000 499 19979 2 _ _ = true from rfl) ?_) ?_
    · refine Eq.trans (jr_s (pc2 := 1) (lv2 := [(0, .ref 117), (1, .int 1)]) (st2 := [.int 1]) jF_267_0 rfl rfl) ?_
      refine Eq.trans (jr_s (pc2 := 2) (lv2 := [(0, .ref 117), (1, .int 1)]) (st2 := [.long 1]) jF_267_1 rfl rfl) ?_
      refine Eq.trans (jr_s (pc2 := 3) (lv2 := [(0, .ref 117), (1, .int 1)]) (st2 := [.long 0, .long 1]) jF_267_2 rfl rfl) ?_
      refine Eq.trans (jr_s (pc2 := 6) (lv2 := [(0, .ref 117), (1, .int 1)]) (st2 := [.long 17, .long 0, .long 1]) jF_267_3 rfl rfl) ?_
      refine Eq.trans (jr_cS (as := [.long 1, .long 0, .long 17]) (rest := []) (v := some (.int 1)) (hp2 := jh2) (fr2 := 498) (lo2 := 19954) jF_267_6 rfl (show j_cnd 499 19979 498 19954 6 _ _ = true from rfl) ?_) ?_
      · refine Eq.trans (jr_s (pc2 := 1) (lv2 := [(0, .long 1), (2, .long 0), (4, .long 17)]) (st2 := [.long 1]) jF_232_0 rfl rfl) ?_
        refine Eq.trans (jr_s (pc2 := 2) (lv2 := [(0, .long 1), (2, .long 0), (4, .long 17)]) (st2 := [.long 0, .long 1]) jF_232_1 rfl rfl) ?_
        refine Eq.trans (jr_s (pc2 := 3) (lv2 := [(0, .long 1), (2, .long 0), (4, .long 17)]) (st2 := [.int 1]) jF_232_2 rfl rfl) ?_
        refine Eq.trans (jr_if0 jF_232_3 (by decide +kernel)) ?_
        refine Eq.trans (jr_s (pc2 := 7) (lv2 := [(0, .long 1), (2, .long 0), (4, .long 17)]) (st2 := [.long 1]) jF_232_6 rfl rfl) ?_
        refine Eq.trans (jr_s (pc2 := 9) (lv2 := [(0, .long 1), (2, .long 0), (4, .long 17)]) (st2 := [.long 17, .long 1]) jF_232_7 rfl rfl) ?_
        refine Eq.trans (jr_s (pc2 := 10) (lv2 := [(0, .long 1), (2, .long 0), (4, .long 17)]) (st2 := [.int (-1)]) jF_232_9 rfl rfl) ?_
        refine Eq.trans (jr_if0 jF_232_10 (by decide +kernel)) ?_
        refine Eq.trans (jr_s (pc2 := 14) (lv2 := [(0, .long 1), (2, .long 0), (4, .long 17)]) (st2 := [.int 1]) jF_232_13 rfl rfl) ?_
        refine Eq.trans (jr_s (pc2 := 18) (lv2 := [(0, .long 1), (2, .long 0), (4, .long 17)]) (st2 := [.int 1]) jF_232_14 rfl rfl) ?_
        exact jr_ri jF_232_18 rfl
      refine Eq.trans (jr_if0 jF_267_9 (by decide +kernel)) ?_
      refine Eq.trans (jr_s (pc2 := 13) (lv2 := [(0, .ref 117), (1, .int 1)]) (st2 := [.ref 117]) jF_267_12 rfl rfl) ?_
      refine Eq.trans (jr_gf (v := .ref 138) jF_267_13 (by decide +kernel)) ?_
      refine Eq.trans (jr_s (pc2 := 18) (lv2 := [(0, .ref 117), (1, .int 1)]) (st2 := [.int 18, .ref 138]) jF_267_16 rfl rfl) ?_
      refine Eq.trans (jr_s (pc2 := 19) (lv2 := [(0, .ref 117), (1, .int 1)]) (st2 := [.int 1, .int 18, .ref 138]) jF_267_18 rfl rfl) ?_
      refine Eq.trans (jr_s (pc2 := 20) (lv2 := [(0, .ref 117), (1, .int 1)]) (st2 := [.int 19, .ref 138]) jF_267_19 rfl rfl) ?_
      refine Eq.trans (jr_ldl (v := .long 0) jF_267_20 (by decide +kernel)) ?_
      exact jr_rl jF_267_21
    refine Eq.trans (jr_s (pc2 := 6) (lv2 := [(3, .long 0), (0, .ref 117), (1, .int 1), (2, .int a2)]) (st2 := []) jF_266_5 rfl rfl) ?_
    refine Eq.trans (jr_s (pc2 := 7) (lv2 := [(3, .long 0), (0, .ref 117), (1, .int 1), (2, .int a2)]) (st2 := [.long 0]) jF_266_6 rfl rfl) ?_
    refine Eq.trans (jr_s (pc2 := 8) (lv2 := [(3, .long 0), (0, .ref 117), (1, .int 1), (2, .int a2)]) (st2 := [.long 0, .long 0]) jF_266_7 rfl rfl) ?_
    refine Eq.trans (jr_s (pc2 := 9) (lv2 := [(3, .long 0), (0, .ref 117), (1, .int 1), (2, .int a2)]) (st2 := [.int 0]) jF_266_8 rfl rfl) ?_
    refine Eq.trans (jr_if1 jF_266_9 (by decide +kernel)) ?_
    refine Eq.trans (jr_s (pc2 := 25) (lv2 := [(3, .long 0), (0, .ref 117), (1, .int 1), (2, .int a2)]) (st2 := [.int (-1)]) jF_266_24 rfl rfl) ?_
    exact jr_ri jF_266_25 rfl
