set_option maxHeartbeats 8000000 in
set_option maxRecDepth 100000 in
theorem pm_letter_L14 (a2 : Int32) (hl_a2 : (-2147483648) ≤ a2.toInt) (hh_a2 : a2.toInt ≤ 2147483647) : PM 92 266 [.int (-2147483634), .int a2] := by
  refine ⟨60000, 60000, (-1), jh2, jh2, ?_, ?_, by decide +kernel⟩
  · refine Eq.trans (jr_s (pc2 := 1) (lv2 := [(0, .ref 9), (1, .int (-2147483634)), (2, .int a2)]) (st2 := [.ref 9]) jF_92_0 rfl rfl) ?_
    refine Eq.trans (jr_gf (v := .ref 20) jF_92_1 (by decide +kernel)) ?_
    refine Eq.trans (jr_s (pc2 := 5) (lv2 := [(0, .ref 9), (1, .int (-2147483634)), (2, .int a2)]) (st2 := [.int (-2147483634), .ref 20]) jF_92_4 rfl rfl) ?_
    refine Eq.trans (jr_s (pc2 := 6) (lv2 := [(0, .ref 9), (1, .int (-2147483634)), (2, .int a2)]) (st2 := [.int a2, .int (-2147483634), .ref 20]) jF_92_5 rfl rfl) ?_
    refine Eq.trans (jr_cV (a := 20) (as := [.int (-2147483634), .int a2]) (rest := []) (v := some (.int (-1))) (hp2 := jh2) (fr2 := 499) (lo2 := 19978) jF_92_6 (by decide +kernel) rfl (show j_cnd 500 20000 499 19978 3 _ _ = true from rfl) ?_) ?_
    · refine Eq.trans (jr_s (pc2 := 1) (lv2 := [(0, .ref 20), (1, .int (-2147483634)), (2, .int a2)]) (st2 := [.int (-2147483634)]) jF_93_0 rfl rfl) ?_
      refine Eq.trans (jr_if1 jF_93_1 (by decide +kernel)) ?_
      refine Eq.trans (jr_s (pc2 := 33) (lv2 := [(0, .ref 20), (1, .int (-2147483634)), (2, .int a2)]) (st2 := [.int (-1)]) jF_93_32 rfl rfl) ?_
      exact jr_ri jF_93_33 rfl
    exact jr_ri jF_92_9 rfl
  · refine Eq.trans (jr_s (pc2 := 1) (lv2 := [(0, .ref 117), (1, .int (-2147483634)), (2, .int a2)]) (st2 := [.ref 117]) jF_266_0 rfl rfl) ?_
    refine Eq.trans (jr_s (pc2 := 2) (lv2 := [(0, .ref 117), (1, .int (-2147483634)), (2, .int a2)]) (st2 := [.int (-2147483634), .ref 117]) jF_266_1 rfl rfl) ?_
    refine Eq.trans (jr_cV (a := 117) (as := [.int (-2147483634)]) (rest := []) (v := some (.long 0)) (hp2 := jh2) (fr2 := 499) (lo2 := 19979) jF_266_2 (by decide +kernel) rfl (show j_cnd 500 20000 499 19979 2 _ _ = true from rfl) ?_) ?_
    · refine Eq.trans (jr_s (pc2 := 1) (lv2 := [(0, .ref 117), (1, .int (-2147483634))]) (st2 := [.int (-2147483634)]) jF_267_0 rfl rfl) ?_
      refine Eq.trans (jr_s (pc2 := 2) (lv2 := [(0, .ref 117), (1, .int (-2147483634))]) (st2 := [.long (-2147483634)]) jF_267_1 rfl rfl) ?_
      refine Eq.trans (jr_s (pc2 := 3) (lv2 := [(0, .ref 117), (1, .int (-2147483634))]) (st2 := [.long 0, .long (-2147483634)]) jF_267_2 rfl rfl) ?_
      refine Eq.trans (jr_s (pc2 := 6) (lv2 := [(0, .ref 117), (1, .int (-2147483634))]) (st2 := [.long 17, .long 0, .long (-2147483634)]) jF_267_3 rfl rfl) ?_
      refine Eq.trans (jr_cS (as := [.long (-2147483634), .long 0, .long 17]) (rest := []) (v := some (.int 0)) (hp2 := jh2) (fr2 := 498) (lo2 := 19954) jF_267_6 rfl (show j_cnd 499 19979 498 19954 6 _ _ = true from rfl) ?_) ?_
      · refine Eq.trans (jr_s (pc2 := 1) (lv2 := [(0, .long (-2147483634)), (2, .long 0), (4, .long 17)]) (st2 := [.long (-2147483634)]) jF_232_0 rfl rfl) ?_
        refine Eq.trans (jr_s (pc2 := 2) (lv2 := [(0, .long (-2147483634)), (2, .long 0), (4, .long 17)]) (st2 := [.long 0, .long (-2147483634)]) jF_232_1 rfl rfl) ?_
        refine Eq.trans (jr_s (pc2 := 3) (lv2 := [(0, .long (-2147483634)), (2, .long 0), (4, .long 17)]) (st2 := [.int (-1)]) jF_232_2 rfl rfl) ?_
        refine Eq.trans (jr_if1 jF_232_3 (by decide +kernel)) ?_
        refine Eq.trans (jr_s (pc2 := 18) (lv2 := [(0, .long (-2147483634)), (2, .long 0), (4, .long 17)]) (st2 := [.int 0]) jF_232_17 rfl rfl) ?_
        exact jr_ri jF_232_18 rfl
      refine Eq.trans (jr_if1 jF_267_9 (by decide +kernel)) ?_
      refine Eq.trans (jr_s (pc2 := 23) (lv2 := [(0, .ref 117), (1, .int (-2147483634))]) (st2 := [.int (-2147483634)]) jF_267_22 rfl rfl) ?_
      refine Eq.trans (jr_s (pc2 := 25) (lv2 := [(0, .ref 117), (1, .int (-2147483634))]) (st2 := [.int 20, .int (-2147483634)]) jF_267_23 rfl rfl) ?_
      refine Eq.trans (jr_s (pc2 := 26) (lv2 := [(0, .ref 117), (1, .int (-2147483634))]) (st2 := [.int 2147483642]) jF_267_25 rfl rfl) ?_
      refine Eq.trans (jr_s (pc2 := 27) (lv2 := [(0, .ref 117), (1, .int (-2147483634))]) (st2 := [.long 2147483642]) jF_267_26 rfl rfl) ?_
      refine Eq.trans (jr_s (pc2 := 28) (lv2 := [(0, .ref 117), (1, .int (-2147483634))]) (st2 := [.long 0, .long 2147483642]) jF_267_27 rfl rfl) ?_
      refine Eq.trans (jr_s (pc2 := 29) (lv2 := [(0, .ref 117), (1, .int (-2147483634))]) (st2 := [.ref 117, .long 0, .long 2147483642]) jF_267_28 rfl rfl) ?_
      refine Eq.trans (jr_gf (v := .int 0) jF_267_29 (by decide +kernel)) ?_
      refine Eq.trans (jr_s (pc2 := 33) (lv2 := [(0, .ref 117), (1, .int (-2147483634))]) (st2 := [.int 1, .int 0, .long 0, .long 2147483642]) jF_267_32 rfl rfl) ?_
      refine Eq.trans (jr_s (pc2 := 34) (lv2 := [(0, .ref 117), (1, .int (-2147483634))]) (st2 := [.int (-1), .long 0, .long 2147483642]) jF_267_33 rfl rfl) ?_
      refine Eq.trans (jr_s (pc2 := 35) (lv2 := [(0, .ref 117), (1, .int (-2147483634))]) (st2 := [.long (-1), .long 0, .long 2147483642]) jF_267_34 rfl rfl) ?_
      refine Eq.trans (jr_cS (as := [.long 2147483642, .long 0, .long (-1)]) (rest := []) (v := some (.int 0)) (hp2 := jh2) (fr2 := 498) (lo2 := 19954) jF_267_35 rfl (show j_cnd 499 19979 498 19954 6 _ _ = true from rfl) ?_) ?_
      · refine Eq.trans (jr_s (pc2 := 1) (lv2 := [(0, .long 2147483642), (2, .long 0), (4, .long (-1))]) (st2 := [.long 2147483642]) jF_232_0 rfl rfl) ?_
        refine Eq.trans (jr_s (pc2 := 2) (lv2 := [(0, .long 2147483642), (2, .long 0), (4, .long (-1))]) (st2 := [.long 0, .long 2147483642]) jF_232_1 rfl rfl) ?_
        refine Eq.trans (jr_s (pc2 := 3) (lv2 := [(0, .long 2147483642), (2, .long 0), (4, .long (-1))]) (st2 := [.int 1]) jF_232_2 rfl rfl) ?_
        refine Eq.trans (jr_if0 jF_232_3 (by decide +kernel)) ?_
        refine Eq.trans (jr_s (pc2 := 7) (lv2 := [(0, .long 2147483642), (2, .long 0), (4, .long (-1))]) (st2 := [.long 2147483642]) jF_232_6 rfl rfl) ?_
        refine Eq.trans (jr_s (pc2 := 9) (lv2 := [(0, .long 2147483642), (2, .long 0), (4, .long (-1))]) (st2 := [.long (-1), .long 2147483642]) jF_232_7 rfl rfl) ?_
        refine Eq.trans (jr_s (pc2 := 10) (lv2 := [(0, .long 2147483642), (2, .long 0), (4, .long (-1))]) (st2 := [.int 1]) jF_232_9 rfl rfl) ?_
        refine Eq.trans (jr_if1 jF_232_10 (by decide +kernel)) ?_
        refine Eq.trans (jr_s (pc2 := 18) (lv2 := [(0, .long 2147483642), (2, .long 0), (4, .long (-1))]) (st2 := [.int 0]) jF_232_17 rfl rfl) ?_
        exact jr_ri jF_232_18 rfl
      refine Eq.trans (jr_if1 jF_267_38 (by decide +kernel)) ?_
      refine Eq.trans (jr_s (pc2 := 56) (lv2 := [(0, .ref 117), (1, .int (-2147483634))]) (st2 := [.long 0]) jF_267_55 rfl rfl) ?_
      exact jr_rl jF_267_56
    refine Eq.trans (jr_s (pc2 := 6) (lv2 := [(3, .long 0), (0, .ref 117), (1, .int (-2147483634)), (2, .int a2)]) (st2 := []) jF_266_5 rfl rfl) ?_
    refine Eq.trans (jr_s (pc2 := 7) (lv2 := [(3, .long 0), (0, .ref 117), (1, .int (-2147483634)), (2, .int a2)]) (st2 := [.long 0]) jF_266_6 rfl rfl) ?_
    refine Eq.trans (jr_s (pc2 := 8) (lv2 := [(3, .long 0), (0, .ref 117), (1, .int (-2147483634)), (2, .int a2)]) (st2 := [.long 0, .long 0]) jF_266_7 rfl rfl) ?_
    refine Eq.trans (jr_s (pc2 := 9) (lv2 := [(3, .long 0), (0, .ref 117), (1, .int (-2147483634)), (2, .int a2)]) (st2 := [.int 0]) jF_266_8 rfl rfl) ?_
    refine Eq.trans (jr_if1 jF_266_9 (by decide +kernel)) ?_
    refine Eq.trans (jr_s (pc2 := 25) (lv2 := [(3, .long 0), (0, .ref 117), (1, .int (-2147483634)), (2, .int a2)]) (st2 := [.int (-1)]) jF_266_24 rfl rfl) ?_
    exact jr_ri jF_266_25 rfl
set_option maxHeartbeats 8000000 in
set_option maxRecDepth 100000 in
theorem pm_letter_L15 (a2 : Int32) (hl_a2 : (-2147483648) ≤ a2.toInt) (hh_a2 : a2.toInt ≤ 2147483647) : PM 92 266 [.int (-2147483633), .int a2] := by
  refine ⟨60000, 60000, (-1), jh2, jh2, ?_, ?_, by decide +kernel⟩
  · refine Eq.trans (jr_s (pc2 := 1) (lv2 := [(0, .ref 9), (1, .int (-2147483633)), (2, .int a2)]) (st2 := [.ref 9]) jF_92_0 rfl rfl) ?_
    refine Eq.trans (jr_gf (v := .ref 20) jF_92_1 (by decide +kernel)) ?_
    refine Eq.trans (jr_s (pc2 := 5) (lv2 := [(0, .ref 9), (1, .int (-2147483633)), (2, .int a2)]) (st2 := [.int (-2147483633), .ref 20]) jF_92_4 rfl rfl) ?_
    refine Eq.trans (jr_s (pc2 := 6) (lv2 := [(0, .ref 9), (1, .int (-2147483633)), (2, .int a2)]) (st2 := [.int a2, .int (-2147483633), .ref 20]) jF_92_5 rfl rfl) ?_
    refine Eq.trans (jr_cV (a := 20) (as := [.int (-2147483633), .int a2]) (rest := []) (v := some (.int (-1))) (hp2 := jh2) (fr2 := 499) (lo2 := 19978) jF_92_6 (by decide +kernel) rfl (show j_cnd 500 20000 499 19978 3 _ _ = true from rfl) ?_) ?_
    · refine Eq.trans (jr_s (pc2 := 1) (lv2 := [(0, .ref 20), (1, .int (-2147483633)), (2, .int a2)]) (st2 := [.int (-2147483633)]) jF_93_0 rfl rfl) ?_
      refine Eq.trans (jr_if1 jF_93_1 (by decide +kernel)) ?_
      refine Eq.trans (jr_s (pc2 := 33) (lv2 := [(0, .ref 20), (1, .int (-2147483633)), (2, .int a2)]) (st2 := [.int (-1)]) jF_93_32 rfl rfl) ?_
      exact jr_ri jF_93_33 rfl
    exact jr_ri jF_92_9 rfl
  · refine Eq.trans (jr_s (pc2 := 1) (lv2 := [(0, .ref 117), (1, .int (-2147483633)), (2, .int a2)]) (st2 := [.ref 117]) jF_266_0 rfl rfl) ?_
    refine Eq.trans (jr_s (pc2 := 2) (lv2 := [(0, .ref 117), (1, .int (-2147483633)), (2, .int a2)]) (st2 := [.int (-2147483633), .ref 117]) jF_266_1 rfl rfl) ?_
    refine Eq.trans (jr_cV (a := 117) (as := [.int (-2147483633)]) (rest := []) (v := some (.long 0)) (hp2 := jh2) (fr2 := 499) (lo2 := 19979) jF_266_2 (by decide +kernel) rfl (show j_cnd 500 20000 499 19979 2 _ _ = true from rfl) ?_) ?_
    · refine Eq.trans (jr_s (pc2 := 1) (lv2 := [(0, .ref 117), (1, .int (-2147483633))]) (st2 := [.int (-2147483633)]) jF_267_0 rfl rfl) ?_
      refine Eq.trans (jr_s (pc2 := 2) (lv2 := [(0, .ref 117), (1, .int (-2147483633))]) (st2 := [.long (-2147483633)]) jF_267_1 rfl rfl) ?_
      refine Eq.trans (jr_s (pc2 := 3) (lv2 := [(0, .ref 117), (1, .int (-2147483633))]) (st2 := [.long 0, .long (-2147483633)]) jF_267_2 rfl rfl) ?_
      refine Eq.trans (jr_s (pc2 := 6) (lv2 := [(0, .ref 117), (1, .int (-2147483633))]) (st2 := [.long 17, .long 0, .long (-2147483633)]) jF_267_3 rfl rfl) ?_
      refine Eq.trans (jr_cS (as := [.long (-2147483633), .long 0, .long 17]) (rest := []) (v := some (.int 0)) (hp2 := jh2) (fr2 := 498) (lo2 := 19954) jF_267_6 rfl (show j_cnd 499 19979 498 19954 6 _ _ = true from rfl) ?_) ?_
      · refine Eq.trans (jr_s (pc2 := 1) (lv2 := [(0, .long (-2147483633)), (2, .long 0), (4, .long 17)]) (st2 := [.long (-2147483633)]) jF_232_0 rfl rfl) ?_
        refine Eq.trans (jr_s (pc2 := 2) (lv2 := [(0, .long (-2147483633)), (2, .long 0), (4, .long 17)]) (st2 := [.long 0, .long (-2147483633)]) jF_232_1 rfl rfl) ?_
        refine Eq.trans (jr_s (pc2 := 3) (lv2 := [(0, .long (-2147483633)), (2, .long 0), (4, .long 17)]) (st2 := [.int (-1)]) jF_232_2 rfl rfl) ?_
        refine Eq.trans (jr_if1 jF_232_3 (by decide +kernel)) ?_
        refine Eq.trans (jr_s (pc2 := 18) (lv2 := [(0, .long (-2147483633)), (2, .long 0), (4, .long 17)]) (st2 := [.int 0]) jF_232_17 rfl rfl) ?_
        exact jr_ri jF_232_18 rfl
      refine Eq.trans (jr_if1 jF_267_9 (by decide +kernel)) ?_
      refine Eq.trans (jr_s (pc2 := 23) (lv2 := [(0, .ref 117), (1, .int (-2147483633))]) (st2 := [.int (-2147483633)]) jF_267_22 rfl rfl) ?_
      refine Eq.trans (jr_s (pc2 := 25) (lv2 := [(0, .ref 117), (1, .int (-2147483633))]) (st2 := [.int 20, .int (-2147483633)]) jF_267_23 rfl rfl) ?_
      refine Eq.trans (jr_s (pc2 := 26) (lv2 := [(0, .ref 117), (1, .int (-2147483633))]) (st2 := [.int 2147483643]) jF_267_25 rfl rfl) ?_
      refine Eq.trans (jr_s (pc2 := 27) (lv2 := [(0, .ref 117), (1, .int (-2147483633))]) (st2 := [.long 2147483643]) jF_267_26 rfl rfl) ?_
      refine Eq.trans (jr_s (pc2 := 28) (lv2 := [(0, .ref 117), (1, .int (-2147483633))]) (st2 := [.long 0, .long 2147483643]) jF_267_27 rfl rfl) ?_
      refine Eq.trans (jr_s (pc2 := 29) (lv2 := [(0, .ref 117), (1, .int (-2147483633))]) (st2 := [.ref 117, .long 0, .long 2147483643]) jF_267_28 rfl rfl) ?_
      refine Eq.trans (jr_gf (v := .int 0) jF_267_29 (by decide +kernel)) ?_
      refine Eq.trans (jr_s (pc2 := 33) (lv2 := [(0, .ref 117), (1, .int (-2147483633))]) (st2 := [.int 1, .int 0, .long 0, .long 2147483643]) jF_267_32 rfl rfl) ?_
      refine Eq.trans (jr_s (pc2 := 34) (lv2 := [(0, .ref 117), (1, .int (-2147483633))]) (st2 := [.int (-1), .long 0, .long 2147483643]) jF_267_33 rfl rfl) ?_
      refine Eq.trans (jr_s (pc2 := 35) (lv2 := [(0, .ref 117), (1, .int (-2147483633))]) (st2 := [.long (-1), .long 0, .long 2147483643]) jF_267_34 rfl rfl) ?_
      refine Eq.trans (jr_cS (as := [.long 2147483643, .long 0, .long (-1)]) (rest := []) (v := some (.int 0)) (hp2 := jh2) (fr2 := 498) (lo2 := 19954) jF_267_35 rfl (show j_cnd 499 19979 498 19954 6 _ _ = true from rfl) ?_) ?_
      · refine Eq.trans (jr_s (pc2 := 1) (lv2 := [(0, .long 2147483643), (2, .long 0), (4, .long (-1))]) (st2 := [.long 2147483643]) jF_232_0 rfl rfl) ?_
        refine Eq.trans (jr_s (pc2 := 2) (lv2 := [(0, .long 2147483643), (2, .long 0), (4, .long (-1))]) (st2 := [.long 0, .long 2147483643]) jF_232_1 rfl rfl) ?_
        refine Eq.trans (jr_s (pc2 := 3) (lv2 := [(0, .long 2147483643), (2, .long 0), (4, .long (-1))]) (st2 := [.int 1]) jF_232_2 rfl rfl) ?_
        refine Eq.trans (jr_if0 jF_232_3 (by decide +kernel)) ?_
        refine Eq.trans (jr_s (pc2 := 7) (lv2 := [(0, .long 2147483643), (2, .long 0), (4, .long (-1))]) (st2 := [.long 2147483643]) jF_232_6 rfl rfl) ?_
        refine Eq.trans (jr_s (pc2 := 9) (lv2 := [(0, .long 2147483643), (2, .long 0), (4, .long (-1))]) (st2 := [.long (-1), .long 2147483643]) jF_232_7 rfl rfl) ?_
        refine Eq.trans (jr_s (pc2 := 10) (lv2 := [(0, .long 2147483643), (2, .long 0), (4, .long (-1))]) (st2 := [.int 1]) jF_232_9 rfl rfl) ?_
        refine Eq.trans (jr_if1 jF_232_10 (by decide +kernel)) ?_
        refine Eq.trans (jr_s (pc2 := 18) (lv2 := [(0, .long 2147483643), (2, .long 0), (4, .long (-1))]) (st2 := [.int 0]) jF_232_17 rfl rfl) ?_
        exact jr_ri jF_232_18 rfl
      refine Eq.trans (jr_if1 jF_267_38 (by decide +kernel)) ?_
      refine Eq.trans (jr_s (pc2 := 56) (lv2 := [(0, .ref 117), (1, .int (-2147483633))]) (st2 := [.long 0]) jF_267_55 rfl rfl) ?_
      exact jr_rl jF_267_56
    refine Eq.trans (jr_s (pc2 := 6) (lv2 := [(3, .long 0), (0, .ref 117), (1, .int (-2147483633)), (2, .int a2)]) (st2 := []) jF_266_5 rfl rfl) ?_
    refine Eq.trans (jr_s (pc2 := 7) (lv2 := [(3, .long 0), (0, .ref 117), (1, .int (-2147483633)), (2, .int a2)]) (st2 := [.long 0]) jF_266_6 rfl rfl) ?_
    refine Eq.trans (jr_s (pc2 := 8) (lv2 := [(3, .long 0), (0, .ref 117), (1, .int (-2147483633)), (2, .int a2)]) (st2 := [.long 0, .long 0]) jF_266_7 rfl rfl) ?_
    refine Eq.trans (jr_s (pc2 := 9) (lv2 := [(3, .long 0), (0, .ref 117), (1, .int (-2147483633)), (2, .int a2)]) (st2 := [.int 0]) jF_266_8 rfl rfl) ?_
    refine Eq.trans (jr_if1 jF_266_9 (by decide +kernel)) ?_
    refine Eq.trans (jr_s (pc2 := 25) (lv2 := [(3, .long 0), (0, .ref 117), (1, .int (-2147483633)), (2, .int a2)]) (st2 := [.int (-1)]) jF_266_24 rfl rfl) ?_
    exact jr_ri jF_266_25 rfl
set_option maxHeartbeats 8000000 in
set_option maxRecDepth 100000 in
theorem pm_letter_L16 (a2 : Int32) (hl_a2 : (-2147483648) ≤ a2.toInt) (hh_a2 : a2.toInt ≤ 2147483647) : PM 92 266 [.int (-2147483632), .int a2] := by
  refine ⟨60000, 60000, (-1), jh2, jh2, ?_, ?_, by decide +kernel⟩
  · refine Eq.trans (jr_s (pc2 := 1) (lv2 := [(0, .ref 9), (1, .int (-2147483632)), (2, .int a2)]) (st2 := [.ref 9]) jF_92_0 rfl rfl) ?_
    refine Eq.trans (jr_gf (v := .ref 20) jF_92_1 (by decide +kernel)) ?_
    refine Eq.trans (jr_s (pc2 := 5) (lv2 := [(0, .ref 9), (1, .int (-2147483632)), (2, .int a2)]) (st2 := [.int (-2147483632), .ref 20]) jF_92_4 rfl rfl) ?_
    refine Eq.trans (jr_s (pc2 := 6) (lv2 := [(0, .ref 9), (1, .int (-2147483632)), (2, .int a2)]) (st2 := [.int a2, .int (-2147483632), .ref 20]) jF_92_5 rfl rfl) ?_
    refine Eq.trans (jr_cV (a := 20) (as := [.int (-2147483632), .int a2]) (rest := []) (v := some (.int (-1))) (hp2 := jh2) (fr2 := 499) (lo2 := 19978) jF_92_6 (by decide +kernel) rfl (show j_cnd 500 20000 499 19978 3 _ _ = true from rfl) ?_) ?_
    · refine Eq.trans (jr_s (pc2 := 1) (lv2 := [(0, .ref 20), (1, .int (-2147483632)), (2, .int a2)]) (st2 := [.int (-2147483632)]) jF_93_0 rfl rfl) ?_
      refine Eq.trans (jr_if1 jF_93_1 (by decide +kernel)) ?_
      refine Eq.trans (jr_s (pc2 := 33) (lv2 := [(0, .ref 20), (1, .int (-2147483632)), (2, .int a2)]) (st2 := [.int (-1)]) jF_93_32 rfl rfl) ?_
      exact jr_ri jF_93_33 rfl
    exact jr_ri jF_92_9 rfl
  · refine Eq.trans (jr_s (pc2 := 1) (lv2 := [(0, .ref 117), (1, .int (-2147483632)), (2, .int a2)]) (st2 := [.ref 117]) jF_266_0 rfl rfl) ?_
    refine Eq.trans (jr_s (pc2 := 2) (lv2 := [(0, .ref 117), (1, .int (-2147483632)), (2, .int a2)]) (st2 := [.int (-2147483632), .ref 117]) jF_266_1 rfl rfl) ?_
    refine Eq.trans (jr_cV (a := 117) (as := [.int (-2147483632)]) (rest := []) (v := some (.long 0)) (hp2 := jh2) (fr2 := 499) (lo2 := 19979) jF_266_2 (by decide +kernel) rfl (show j_cnd 500 20000 499 19979 2 _ _ = true from rfl) ?_) ?_
    · refine Eq.trans (jr_s (pc2 := 1) (lv2 := [(0, .ref 117), (1, .int (-2147483632))]) (st2 := [.int (-2147483632)]) jF_267_0 rfl rfl) ?_
      refine Eq.trans (jr_s (pc2 := 2) (lv2 := [(0, .ref 117), (1, .int (-2147483632))]) (st2 := [.long (-2147483632)]) jF_267_1 rfl rfl) ?_
      refine Eq.trans (jr_s (pc2 := 3) (lv2 := [(0, .ref 117), (1, .int (-2147483632))]) (st2 := [.long 0, .long (-2147483632)]) jF_267_2 rfl rfl) ?_
      refine Eq.trans (jr_s (pc2 := 6) (lv2 := [(0, .ref 117), (1, .int (-2147483632))]) (st2 := [.long 17, .long 0, .long (-2147483632)]) jF_267_3 rfl rfl) ?_
      refine Eq.trans (jr_cS (as := [.long (-2147483632), .long 0, .long 17]) (rest := []) (v := some (.int 0)) (hp2 := jh2) (fr2 := 498) (lo2 := 19954) jF_267_6 rfl (show j_cnd 499 19979 498 19954 6 _ _ = true from rfl) ?_) ?_
      · refine Eq.trans (jr_s (pc2 := 1) (lv2 := [(0, .long (-2147483632)), (2, .long 0), (4, .long 17)]) (st2 := [.long (-2147483632)]) jF_232_0 rfl rfl) ?_
        refine Eq.trans (jr_s (pc2 := 2) (lv2 := [(0, .long (-2147483632)), (2, .long 0), (4, .long 17)]) (st2 := [.long 0, .long (-2147483632)]) jF_232_1 rfl rfl) ?_
        refine Eq.trans (jr_s (pc2 := 3) (lv2 := [(0, .long (-2147483632)), (2, .long 0), (4, .long 17)]) (st2 := [.int (-1)]) jF_232_2 rfl rfl) ?_
        refine Eq.trans (jr_if1 jF_232_3 (by decide +kernel)) ?_
        refine Eq.trans (jr_s (pc2 := 18) (lv2 := [(0, .long (-2147483632)), (2, .long 0), (4, .long 17)]) (st2 := [.int 0]) jF_232_17 rfl rfl) ?_
        exact jr_ri jF_232_18 rfl
      refine Eq.trans (jr_if1 jF_267_9 (by decide +kernel)) ?_
      refine Eq.trans (jr_s (pc2 := 23) (lv2 := [(0, .ref 117), (1, .int (-2147483632))]) (st2 := [.int (-2147483632)]) jF_267_22 rfl rfl) ?_
      refine Eq.trans (jr_s (pc2 := 25) (lv2 := [(0, .ref 117), (1, .int (-2147483632))]) (st2 := [.int 20, .int (-2147483632)]) jF_267_23 rfl rfl) ?_
      refine Eq.trans (jr_s (pc2 := 26) (lv2 := [(0, .ref 117), (1, .int (-2147483632))]) (st2 := [.int 2147483644]) jF_267_25 rfl rfl) ?_
      refine Eq.trans (jr_s (pc2 := 27) (lv2 := [(0, .ref 117), (1, .int (-2147483632))]) (st2 := [.long 2147483644]) jF_267_26 rfl rfl) ?_
      refine Eq.trans (jr_s (pc2 := 28) (lv2 := [(0, .ref 117), (1, .int (-2147483632))]) (st2 := [.long 0, .long 2147483644]) jF_267_27 rfl rfl) ?_
      refine Eq.trans (jr_s (pc2 := 29) (lv2 := [(0, .ref 117), (1, .int (-2147483632))]) (st2 := [.ref 117, .long 0, .long 2147483644]) jF_267_28 rfl rfl) ?_
      refine Eq.trans (jr_gf (v := .int 0) jF_267_29 (by decide +kernel)) ?_
      refine Eq.trans (jr_s (pc2 := 33) (lv2 := [(0, .ref 117), (1, .int (-2147483632))]) (st2 := [.int 1, .int 0, .long 0, .long 2147483644]) jF_267_32 rfl rfl) ?_
      refine Eq.trans (jr_s (pc2 := 34) (lv2 := [(0, .ref 117), (1, .int (-2147483632))]) (st2 := [.int (-1), .long 0, .long 2147483644]) jF_267_33 rfl rfl) ?_
      refine Eq.trans (jr_s (pc2 := 35) (lv2 := [(0, .ref 117), (1, .int (-2147483632))]) (st2 := [.long (-1), .long 0, .long 2147483644]) jF_267_34 rfl rfl) ?_
      refine Eq.trans (jr_cS (as := [.long 2147483644, .long 0, .long (-1)]) (rest := []) (v := some (.int 0)) (hp2 := jh2) (fr2 := 498) (lo2 := 19954) jF_267_35 rfl (show j_cnd 499 19979 498 19954 6 _ _ = true from rfl) ?_) ?_
      · refine Eq.trans (jr_s (pc2 := 1) (lv2 := [(0, .long 2147483644), (2, .long 0), (4, .long (-1))]) (st2 := [.long 2147483644]) jF_232_0 rfl rfl) ?_
        refine Eq.trans (jr_s (pc2 := 2) (lv2 := [(0, .long 2147483644), (2, .long 0), (4, .long (-1))]) (st2 := [.long 0, .long 2147483644]) jF_232_1 rfl rfl) ?_
        refine Eq.trans (jr_s (pc2 := 3) (lv2 := [(0, .long 2147483644), (2, .long 0), (4, .long (-1))]) (st2 := [.int 1]) jF_232_2 rfl rfl) ?_
        refine Eq.trans (jr_if0 jF_232_3 (by decide +kernel)) ?_
        refine Eq.trans (jr_s (pc2 := 7) (lv2 := [(0, .long 2147483644), (2, .long 0), (4, .long (-1))]) (st2 := [.long 2147483644]) jF_232_6 rfl rfl) ?_
        refine Eq.trans (jr_s (pc2 := 9) (lv2 := [(0, .long 2147483644), (2, .long 0), (4, .long (-1))]) (st2 := [.long (-1), .long 2147483644]) jF_232_7 rfl rfl) ?_
        refine Eq.trans (jr_s (pc2 := 10) (lv2 := [(0, .long 2147483644), (2, .long 0), (4, .long (-1))]) (st2 := [.int 1]) jF_232_9 rfl rfl) ?_
        refine Eq.trans (jr_if1 jF_232_10 (by decide +kernel)) ?_
        refine Eq.trans (jr_s (pc2 := 18) (lv2 := [(0, .long 2147483644), (2, .long 0), (4, .long (-1))]) (st2 := [.int 0]) jF_232_17 rfl rfl) ?_
        exact jr_ri jF_232_18 rfl
      refine Eq.trans (jr_if1 jF_267_38 (by decide +kernel)) ?_
      refine Eq.trans (jr_s (pc2 := 56) (lv2 := [(0, .ref 117), (1, .int (-2147483632))]) (st2 := [.long 0]) jF_267_55 rfl rfl) ?_
      exact jr_rl jF_267_56
    refine Eq.trans (jr_s (pc2 := 6) (lv2 := [(3, .long 0), (0, .ref 117), (1, .int (-2147483632)), (2, .int a2)]) (st2 := []) jF_266_5 rfl rfl) ?_
    refine Eq.trans (jr_s (pc2 := 7) (lv2 := [(3, .long 0), (0, .ref 117), (1, .int (-2147483632)), (2, .int a2)]) (st2 := [.long 0]) jF_266_6 rfl rfl) ?_
    refine Eq.trans (jr_s (pc2 := 8) (lv2 := [(3, .long 0), (0, .ref 117), (1, .int (-2147483632)), (2, .int a2)]) (st2 := [.long 0, .long 0]) jF_266_7 rfl rfl) ?_
    refine Eq.trans (jr_s (pc2 := 9) (lv2 := [(3, .long 0), (0, .ref 117), (1, .int (-2147483632)), (2, .int a2)]) (st2 := [.int 0]) jF_266_8 rfl rfl) ?_
    refine Eq.trans (jr_if1 jF_266_9 (by decide +kernel)) ?_
    refine Eq.trans (jr_s (pc2 := 25) (lv2 := [(3, .long 0), (0, .ref 117), (1, .int (-2147483632)), (2, .int a2)]) (st2 := [.int (-1)]) jF_266_24 rfl rfl) ?_
    exact jr_ri jF_266_25 rfl
set_option maxHeartbeats 8000000 in
set_option maxRecDepth 100000 in
theorem pm_letter_L17 (a2 : Int32) (hl_a2 : (-2147483648) ≤ a2.toInt) (hh_a2 : a2.toInt ≤ 2147483647) : PM 92 266 [.int (-2147483631), .int a2] := by
  refine ⟨60000, 60000, (-1), jh2, jh2, ?_, ?_, by decide +kernel⟩
  · refine Eq.trans (jr_s (pc2 := 1) (lv2 := [(0, .ref 9), (1, .int (-2147483631)), (2, .int a2)]) (st2 := [.ref 9]) jF_92_0 rfl rfl) ?_
    refine Eq.trans (jr_gf (v := .ref 20) jF_92_1 (by decide +kernel)) ?_
    refine Eq.trans (jr_s (pc2 := 5) (lv2 := [(0, .ref 9), (1, .int (-2147483631)), (2, .int a2)]) (st2 := [.int (-2147483631), .ref 20]) jF_92_4 rfl rfl) ?_
    refine Eq.trans (jr_s (pc2 := 6) (lv2 := [(0, .ref 9), (1, .int (-2147483631)), (2, .int a2)]) (st2 := [.int a2, .int (-2147483631), .ref 20]) jF_92_5 rfl rfl) ?_
    refine Eq.trans (jr_cV (a := 20) (as := [.int (-2147483631), .int a2]) (rest := []) (v := some (.int (-1))) (hp2 := jh2) (fr2 := 499) (lo2 := 19978) jF_92_6 (by decide +kernel) rfl (show j_cnd 500 20000 499 19978 3 _ _ = true from rfl) ?_) ?_
    · refine Eq.trans (jr_s (pc2 := 1) (lv2 := [(0, .ref 20), (1, .int (-2147483631)), (2, .int a2)]) (st2 := [.int (-2147483631)]) jF_93_0 rfl rfl) ?_
      refine Eq.trans (jr_if1 jF_93_1 (by decide +kernel)) ?_
      refine Eq.trans (jr_s (pc2 := 33) (lv2 := [(0, .ref 20), (1, .int (-2147483631)), (2, .int a2)]) (st2 := [.int (-1)]) jF_93_32 rfl rfl) ?_
      exact jr_ri jF_93_33 rfl
    exact jr_ri jF_92_9 rfl
  · refine Eq.trans (jr_s (pc2 := 1) (lv2 := [(0, .ref 117), (1, .int (-2147483631)), (2, .int a2)]) (st2 := [.ref 117]) jF_266_0 rfl rfl) ?_
    refine Eq.trans (jr_s (pc2 := 2) (lv2 := [(0, .ref 117), (1, .int (-2147483631)), (2, .int a2)]) (st2 := [.int (-2147483631), .ref 117]) jF_266_1 rfl rfl) ?_
    refine Eq.trans (jr_cV (a := 117) (as := [.int (-2147483631)]) (rest := []) (v := some (.long 0)) (hp2 := jh2) (fr2 := 499) (lo2 := 19979) jF_266_2 (by decide +kernel) rfl (show j_cnd 500 20000 499 19979 2 _ _ = true from rfl) ?_) ?_
    · refine Eq.trans (jr_s (pc2 := 1) (lv2 := [(0, .ref 117), (1, .int (-2147483631))]) (st2 := [.int (-2147483631)]) jF_267_0 rfl rfl) ?_
      refine Eq.trans (jr_s (pc2 := 2) (lv2 := [(0, .ref 117), (1, .int (-2147483631))]) (st2 := [.long (-2147483631)]) jF_267_1 rfl rfl) ?_
      refine Eq.trans (jr_s (pc2 := 3) (lv2 := [(0, .ref 117), (1, .int (-2147483631))]) (st2 := [.long 0, .long (-2147483631)]) jF_267_2 rfl rfl) ?_
      refine Eq.trans (jr_s (pc2 := 6) (lv2 := [(0, .ref 117), (1, .int (-2147483631))]) (st2 := [.long 17, .long 0, .long (-2147483631)]) jF_267_3 rfl rfl) ?_
      refine Eq.trans (jr_cS (as := [.long (-2147483631), .long 0, .long 17]) (rest := []) (v := some (.int 0)) (hp2 := jh2) (fr2 := 498) (lo2 := 19954) jF_267_6 rfl (show j_cnd 499 19979 498 19954 6 _ _ = true from rfl) ?_) ?_
      · refine Eq.trans (jr_s (pc2 := 1) (lv2 := [(0, .long (-2147483631)), (2, .long 0), (4, .long 17)]) (st2 := [.long (-2147483631)]) jF_232_0 rfl rfl) ?_
        refine Eq.trans (jr_s (pc2 := 2) (lv2 := [(0, .long (-2147483631)), (2, .long 0), (4, .long 17)]) (st2 := [.long 0, .long (-2147483631)]) jF_232_1 rfl rfl) ?_
        refine Eq.trans (jr_s (pc2 := 3) (lv2 := [(0, .long (-2147483631)), (2, .long 0), (4, .long 17)]) (st2 := [.int (-1)]) jF_232_2 rfl rfl) ?_
        refine Eq.trans (jr_if1 jF_232_3 (by decide +kernel)) ?_
        refine Eq.trans (jr_s (pc2 := 18) (lv2 := [(0, .long (-2147483631)), (2, .long 0), (4, .long 17)]) (st2 := [.int 0]) jF_232_17 rfl rfl) ?_
        exact jr_ri jF_232_18 rfl
      refine Eq.trans (jr_if1 jF_267_9 (by decide +kernel)) ?_
      refine Eq.trans (jr_s (pc2 := 23) (lv2 := [(0, .ref 117), (1, .int (-2147483631))]) (st2 := [.int (-2147483631)]) jF_267_22 rfl rfl) ?_
      refine Eq.trans (jr_s (pc2 := 25) (lv2 := [(0, .ref 117), (1, .int (-2147483631))]) (st2 := [.int 20, .int (-2147483631)]) jF_267_23 rfl rfl) ?_
      refine Eq.trans (jr_s (pc2 := 26) (lv2 := [(0, .ref 117), (1, .int (-2147483631))]) (st2 := [.int 2147483645]) jF_267_25 rfl rfl) ?_
      refine Eq.trans (jr_s (pc2 := 27) (lv2 := [(0, .ref 117), (1, .int (-2147483631))]) (st2 := [.long 2147483645]) jF_267_26 rfl rfl) ?_
      refine Eq.trans (jr_s (pc2 := 28) (lv2 := [(0, .ref 117), (1, .int (-2147483631))]) (st2 := [.long 0, .long 2147483645]) jF_267_27 rfl rfl) ?_
      refine Eq.trans (jr_s (pc2 := 29) (lv2 := [(0, .ref 117), (1, .int (-2147483631))]) (st2 := [.ref 117, .long 0, .long 2147483645]) jF_267_28 rfl rfl) ?_
      refine Eq.trans (jr_gf (v := .int 0) jF_267_29 (by decide +kernel)) ?_
      refine Eq.trans (jr_s (pc2 := 33) (lv2 := [(0, .ref 117), (1, .int (-2147483631))]) (st2 := [.int 1, .int 0, .long 0, .long 2147483645]) jF_267_32 rfl rfl) ?_
      refine Eq.trans (jr_s (pc2 := 34) (lv2 := [(0, .ref 117), (1, .int (-2147483631))]) (st2 := [.int (-1), .long 0, .long 2147483645]) jF_267_33 rfl rfl) ?_
      refine Eq.trans (jr_s (pc2 := 35) (lv2 := [(0, .ref 117), (1, .int (-2147483631))]) (st2 := [.long (-1), .long 0, .long 2147483645]) jF_267_34 rfl rfl) ?_
      refine Eq.trans (jr_cS (as := [.long 2147483645, .long 0, .long (-1)]) (rest := []) (v := some (.int 0)) (hp2 := jh2) (fr2 := 498) (lo2 := 19954) jF_267_35 rfl (show j_cnd 499 19979 498 19954 6 _ _ = true from rfl) ?_) ?_
      · refine Eq.trans (jr_s (pc2 := 1) (lv2 := [(0, .long 2147483645), (2, .long 0), (4, .long (-1))]) (st2 := [.long 2147483645]) jF_232_0 rfl rfl) ?_
        refine Eq.trans (jr_s (pc2 := 2) (lv2 := [(0, .long 2147483645), (2, .long 0), (4, .long (-1))]) (st2 := [.long 0, .long 2147483645]) jF_232_1 rfl rfl) ?_
        refine Eq.trans (jr_s (pc2 := 3) (lv2 := [(0, .long 2147483645), (2, .long 0), (4, .long (-1))]) (st2 := [.int 1]) jF_232_2 rfl rfl) ?_
        refine Eq.trans (jr_if0 jF_232_3 (by decide +kernel)) ?_
        refine Eq.trans (jr_s (pc2 := 7) (lv2 := [(0, .long 2147483645), (2, .long 0), (4, .long (-1))]) (st2 := [.long 2147483645]) jF_232_6 rfl rfl) ?_
        refine Eq.trans (jr_s (pc2 := 9) (lv2 := [(0, .long 2147483645), (2, .long 0), (4, .long (-1))]) (st2 := [.long (-1), .long 2147483645]) jF_232_7 rfl rfl) ?_
        refine Eq.trans (jr_s (pc2 := 10) (lv2 := [(0, .long 2147483645), (2, .long 0), (4, .long (-1))]) (st2 := [.int 1]) jF_232_9 rfl rfl) ?_
        refine Eq.trans (jr_if1 jF_232_10 (by decide +kernel)) ?_
        refine Eq.trans (jr_s (pc2 := 18) (lv2 := [(0, .long 2147483645), (2, .long 0), (4, .long (-1))]) (st2 := [.int 0]) jF_232_17 rfl rfl) ?_
        exact jr_ri jF_232_18 rfl
      refine Eq.trans (jr_if1 jF_267_38 (by decide +kernel)) ?_
      refine Eq.trans (jr_s (pc2 := 56) (lv2 := [(0, .ref 117), (1, .int (-2147483631))]) (st2 := [.long 0]) jF_267_55 rfl rfl) ?_
      exact jr_rl jF_267_56
    refine Eq.trans (jr_s (pc2 := 6) (lv2 := [(3, .long 0), (0, .ref 117), (1, .int (-2147483631)), (2, .int a2)]) (st2 := []) jF_266_5 rfl rfl) ?_
    refine Eq.trans (jr_s (pc2 := 7) (lv2 := [(3, .long 0), (0, .ref 117), (1, .int (-2147483631)), (2, .int a2)]) (st2 := [.long 0]) jF_266_6 rfl rfl) ?_
    refine Eq.trans (jr_s (pc2 := 8) (lv2 := [(3, .long 0), (0, .ref 117), (1, .int (-2147483631)), (2, .int a2)]) (st2 := [.long 0, .long 0]) jF_266_7 rfl rfl) ?_
    refine Eq.trans (jr_s (pc2 := 9) (lv2 := [(3, .long 0), (0, .ref 117), (1, .int (-2147483631)), (2, .int a2)]) (st2 := [.int 0]) jF_266_8 rfl rfl) ?_
    refine Eq.trans (jr_if1 jF_266_9 (by decide +kernel)) ?_
    refine Eq.trans (jr_s (pc2 := 25) (lv2 := [(3, .long 0), (0, .ref 117), (1, .int (-2147483631)), (2, .int a2)]) (st2 := [.int (-1)]) jF_266_24 rfl rfl) ?_
    exact jr_ri jF_266_25 rfl
set_option maxHeartbeats 8000000 in
set_option maxRecDepth 100000 in
theorem pm_letter_L18 (a2 : Int32) (hl_a2 : (-2147483648) ≤ a2.toInt) (hh_a2 : a2.toInt ≤ 2147483647) : PM 92 266 [.int (-2147483630), .int a2] := by
  refine ⟨60000, 60000, (-1), jh2, jh2, ?_, ?_, by decide +kernel⟩
  · refine Eq.trans (jr_s (pc2 := 1) (lv2 := [(0, .ref 9), (1, .int (-2147483630)), (2, .int a2)]) (st2 := [.ref 9]) jF_92_0 rfl rfl) ?_
    refine Eq.trans (jr_gf (v := .ref 20) jF_92_1 (by decide +kernel)) ?_
    refine Eq.trans (jr_s (pc2 := 5) (lv2 := [(0, .ref 9), (1, .int (-2147483630)), (2, .int a2)]) (st2 := [.int (-2147483630), .ref 20]) jF_92_4 rfl rfl) ?_
    refine Eq.trans (jr_s (pc2 := 6) (lv2 := [(0, .ref 9), (1, .int (-2147483630)), (2, .int a2)]) (st2 := [.int a2, .int (-2147483630), .ref 20]) jF_92_5 rfl rfl) ?_
    refine Eq.trans (jr_cV (a := 20) (as := [.int (-2147483630), .int a2]) (rest := []) (v := some (.int (-1))) (hp2 := jh2) (fr2 := 499) (lo2 := 19978) jF_92_6 (by decide +kernel) rfl (show j_cnd 500 20000 499 19978 3 _ _ = true from rfl) ?_) ?_
    · refine Eq.trans (jr_s (pc2 := 1) (lv2 := [(0, .ref 20), (1, .int (-2147483630)), (2, .int a2)]) (st2 := [.int (-2147483630)]) jF_93_0 rfl rfl) ?_
      refine Eq.trans (jr_if1 jF_93_1 (by decide +kernel)) ?_
      refine Eq.trans (jr_s (pc2 := 33) (lv2 := [(0, .ref 20), (1, .int (-2147483630)), (2, .int a2)]) (st2 := [.int (-1)]) jF_93_32 rfl rfl) ?_
      exact jr_ri jF_93_33 rfl
    exact jr_ri jF_92_9 rfl
  · refine Eq.trans (jr_s (pc2 := 1) (lv2 := [(0, .ref 117), (1, .int (-2147483630)), (2, .int a2)]) (st2 := [.ref 117]) jF_266_0 rfl rfl) ?_
    refine Eq.trans (jr_s (pc2 := 2) (lv2 := [(0, .ref 117), (1, .int (-2147483630)), (2, .int a2)]) (st2 := [.int (-2147483630), .ref 117]) jF_266_1 rfl rfl) ?_
    refine Eq.trans (jr_cV (a := 117) (as := [.int (-2147483630)]) (rest := []) (v := some (.long 0)) (hp2 := jh2) (fr2 := 499) (lo2 := 19979) jF_266_2 (by decide +kernel) rfl (show j_cnd 500 20000 499 19979 2 _ _ = true from rfl) ?_) ?_
    · refine Eq.trans (jr_s (pc2 := 1) (lv2 := [(0, .ref 117), (1, .int (-2147483630))]) (st2 := [.int (-2147483630)]) jF_267_0 rfl rfl) ?_
      refine Eq.trans (jr_s (pc2 := 2) (lv2 := [(0, .ref 117), (1, .int (-2147483630))]) (st2 := [.long (-2147483630)]) jF_267_1 rfl rfl) ?_
      refine Eq.trans (jr_s (pc2 := 3) (lv2 := [(0, .ref 117), (1, .int (-2147483630))]) (st2 := [.long 0, .long (-2147483630)]) jF_267_2 rfl rfl) ?_
      refine Eq.trans (jr_s (pc2 := 6) (lv2 := [(0, .ref 117), (1, .int (-2147483630))]) (st2 := [.long 17, .long 0, .long (-2147483630)]) jF_267_3 rfl rfl) ?_
      refine Eq.trans (jr_cS (as := [.long (-2147483630), .long 0, .long 17]) (rest := []) (v := some (.int 0)) (hp2 := jh2) (fr2 := 498) (lo2 := 19954) jF_267_6 rfl (show j_cnd 499 19979 498 19954 6 _ _ = true from rfl) ?_) ?_
      · refine Eq.trans (jr_s (pc2 := 1) (lv2 := [(0, .long (-2147483630)), (2, .long 0), (4, .long 17)]) (st2 := [.long (-2147483630)]) jF_232_0 rfl rfl) ?_
        refine Eq.trans (jr_s (pc2 := 2) (lv2 := [(0, .long (-2147483630)), (2, .long 0), (4, .long 17)]) (st2 := [.long 0, .long (-2147483630)]) jF_232_1 rfl rfl) ?_
        refine Eq.trans (jr_s (pc2 := 3) (lv2 := [(0, .long (-2147483630)), (2, .long 0), (4, .long 17)]) (st2 := [.int (-1)]) jF_232_2 rfl rfl) ?_
        refine Eq.trans (jr_if1 jF_232_3 (by decide +kernel)) ?_
        refine Eq.trans (jr_s (pc2 := 18) (lv2 := [(0, .long (-2147483630)), (2, .long 0), (4, .long 17)]) (st2 := [.int 0]) jF_232_17 rfl rfl) ?_
        exact jr_ri jF_232_18 rfl
      refine Eq.trans (jr_if1 jF_267_9 (by decide +kernel)) ?_
      refine Eq.trans (jr_s (pc2 := 23) (lv2 := [(0, .ref 117), (1, .int (-2147483630))]) (st2 := [.int (-2147483630)]) jF_267_22 rfl rfl) ?_
      refine Eq.trans (jr_s (pc2 := 25) (lv2 := [(0, .ref 117), (1, .int (-2147483630))]) (st2 := [.int 20, .int (-2147483630)]) jF_267_23 rfl rfl) ?_
      refine Eq.trans (jr_s (pc2 := 26) (lv2 := [(0, .ref 117), (1, .int (-2147483630))]) (st2 := [.int 2147483646]) jF_267_25 rfl rfl) ?_
      refine Eq.trans (jr_s (pc2 := 27) (lv2 := [(0, .ref 117), (1, .int (-2147483630))]) (st2 := [.long 2147483646]) jF_267_26 rfl rfl) ?_
      refine Eq.trans (jr_s (pc2 := 28) (lv2 := [(0, .ref 117), (1, .int (-2147483630))]) (st2 := [.long 0, .long 2147483646]) jF_267_27 rfl rfl) ?_
      refine Eq.trans (jr_s (pc2 := 29) (lv2 := [(0, .ref 117), (1, .int (-2147483630))]) (st2 := [.ref 117, .long 0, .long 2147483646]) jF_267_28 rfl rfl) ?_
      refine Eq.trans (jr_gf (v := .int 0) jF_267_29 (by decide +kernel)) ?_
      refine Eq.trans (jr_s (pc2 := 33) (lv2 := [(0, .ref 117), (1, .int (-2147483630))]) (st2 := [.int 1, .int 0, .long 0, .long 2147483646]) jF_267_32 rfl rfl) ?_
      refine Eq.trans (jr_s (pc2 := 34) (lv2 := [(0, .ref 117), (1, .int (-2147483630))]) (st2 := [.int (-1), .long 0, .long 2147483646]) jF_267_33 rfl rfl) ?_
      refine Eq.trans (jr_s (pc2 := 35) (lv2 := [(0, .ref 117), (1, .int (-2147483630))]) (st2 := [.long (-1), .long 0, .long 2147483646]) jF_267_34 rfl rfl) ?_
      refine Eq.trans (jr_cS (as := [.long 2147483646, .long 0, .long (-1)]) (rest := []) (v := some (.int 0)) (hp2 := jh2) (fr2 := 498) (lo2 := 19954) jF_267_35 rfl (show j_cnd 499 19979 498 19954 6 _ _ = true from rfl) ?_) ?_
      · refine Eq.trans (jr_s (pc2 := 1) (lv2 := [(0, .long 2147483646), (2, .long 0), (4, .long (-1))]) (st2 := [.long 2147483646]) jF_232_0 rfl rfl) ?_
        refine Eq.trans (jr_s (pc2 := 2) (lv2 := [(0, .long 2147483646), (2, .long 0), (4, .long (-1))]) (st2 := [.long 0, .long 2147483646]) jF_232_1 rfl rfl) ?_
        refine Eq.trans (jr_s (pc2 := 3) (lv2 := [(0, .long 2147483646), (2, .long 0), (4, .long (-1))]) (st2 := [.int 1]) jF_232_2 rfl rfl) ?_
        refine Eq.trans (jr_if0 jF_232_3 (by decide +kernel)) ?_
        refine Eq.trans (jr_s (pc2 := 7) (lv2 := [(0, .long 2147483646), (2, .long 0), (4, .long (-1))]) (st2 := [.long 2147483646]) jF_232_6 rfl rfl) ?_
        refine Eq.trans (jr_s (pc2 := 9) (lv2 := [(0, .long 2147483646), (2, .long 0), (4, .long (-1))]) (st2 := [.long (-1), .long 2147483646]) jF_232_7 rfl rfl) ?_
        refine Eq.trans (jr_s (pc2 := 10) (lv2 := [(0, .long 2147483646), (2, .long 0), (4, .long (-1))]) (st2 := [.int 1]) jF_232_9 rfl rfl) ?_
        refine Eq.trans (jr_if1 jF_232_10 (by decide +kernel)) ?_
        refine Eq.trans (jr_s (pc2 := 18) (lv2 := [(0, .long 2147483646), (2, .long 0), (4, .long (-1))]) (st2 := [.int 0]) jF_232_17 rfl rfl) ?_
        exact jr_ri jF_232_18 rfl
      refine Eq.trans (jr_if1 jF_267_38 (by decide +kernel)) ?_
      refine Eq.trans (jr_s (pc2 := 56) (lv2 := [(0, .ref 117), (1, .int (-2147483630))]) (st2 := [.long 0]) jF_267_55 rfl rfl) ?_
      exact jr_rl jF_267_56
    refine Eq.trans (jr_s (pc2 := 6) (lv2 := [(3, .long 0), (0, .ref 117), (1, .int (-2147483630)), (2, .int a2)]) (st2 := []) jF_266_5 rfl rfl) ?_
    refine Eq.trans (jr_s (pc2 := 7) (lv2 := [(3, .long 0), (0, .ref 117), (1, .int (-2147483630)), (2, .int a2)]) (st2 := [.long 0]) jF_266_6 rfl rfl) ?_
    refine Eq.trans (jr_s (pc2 := 8) (lv2 := [(3, .long 0), (0, .ref 117), (1, .int (-2147483630)), (2, .int a2)]) (st2 := [.long 0, .long 0]) jF_266_7 rfl rfl) ?_
    refine Eq.trans (jr_s (pc2 := 9) (lv2 := [(3, .long 0), (0, .ref 117), (1, .int (-2147483630)), (2, .int a2)]) (st2 := [.int 0]) jF_266_8 rfl rfl) ?_
    refine Eq.trans (jr_if1 jF_266_9 (by decide +kernel)) ?_
    refine Eq.trans (jr_s (pc2 := 25) (lv2 := [(3, .long 0), (0, .ref 117), (1, .int (-2147483630)), (2, .int a2)]) (st2 := [.int (-1)]) jF_266_24 rfl rfl) ?_
    exact jr_ri jF_266_25 rfl
set_option maxHeartbeats 8000000 in
set_option maxRecDepth 100000 in
theorem pm_letter_L19 (a2 : Int32) (hl_a2 : (-2147483648) ≤ a2.toInt) (hh_a2 : a2.toInt ≤ 2147483647) : PM 92 266 [.int (-2147483629), .int a2] := by
  refine ⟨60000, 60000, (-1), jh2, jh2, ?_, ?_, by decide +kernel⟩
  · refine Eq.trans (jr_s (pc2 := 1) (lv2 := [(0, .ref 9), (1, .int (-2147483629)), (2, .int a2)]) (st2 := [.ref 9]) jF_92_0 rfl rfl) ?_
    refine Eq.trans (jr_gf (v := .ref 20) jF_92_1 (by decide +kernel)) ?_
    refine Eq.trans (jr_s (pc2 := 5) (lv2 := [(0, .ref 9), (1, .int (-2147483629)), (2, .int a2)]) (st2 := [.int (-2147483629), .ref 20]) jF_92_4 rfl rfl) ?_
    refine Eq.trans (jr_s (pc2 := 6) (lv2 := [(0, .ref 9), (1, .int (-2147483629)), (2, .int a2)]) (st2 := [.int a2, .int (-2147483629), .ref 20]) jF_92_5 rfl rfl) ?_
    refine Eq.trans (jr_cV (a := 20) (as := [.int (-2147483629), .int a2]) (rest := []) (v := some (.int (-1))) (hp2 := jh2) (fr2 := 499) (lo2 := 19978) jF_92_6 (by decide +kernel) rfl (show j_cnd 500 20000 499 19978 3 _ _ = true from rfl) ?_) ?_
    · refine Eq.trans (jr_s (pc2 := 1) (lv2 := [(0, .ref 20), (1, .int (-2147483629)), (2, .int a2)]) (st2 := [.int (-2147483629)]) jF_93_0 rfl rfl) ?_
      refine Eq.trans (jr_if1 jF_93_1 (by decide +kernel)) ?_
      refine Eq.trans (jr_s (pc2 := 33) (lv2 := [(0, .ref 20), (1, .int (-2147483629)), (2, .int a2)]) (st2 := [.int (-1)]) jF_93_32 rfl rfl) ?_
      exact jr_ri jF_93_33 rfl
    exact jr_ri jF_92_9 rfl
  · refine Eq.trans (jr_s (pc2 := 1) (lv2 := [(0, .ref 117), (1, .int (-2147483629)), (2, .int a2)]) (st2 := [.ref 117]) jF_266_0 rfl rfl) ?_
    refine Eq.trans (jr_s (pc2 := 2) (lv2 := [(0, .ref 117), (1, .int (-2147483629)), (2, .int a2)]) (st2 := [.int (-2147483629), .ref 117]) jF_266_1 rfl rfl) ?_
    refine Eq.trans (jr_cV (a := 117) (as := [.int (-2147483629)]) (rest := []) (v := some (.long 0)) (hp2 := jh2) (fr2 := 499) (lo2 := 19979) jF_266_2 (by decide +kernel) rfl (show j_cnd 500 20000 499 19979 2 _ _ = true from rfl) ?_) ?_
    · refine Eq.trans (jr_s (pc2 := 1) (lv2 := [(0, .ref 117), (1, .int (-2147483629))]) (st2 := [.int (-2147483629)]) jF_267_0 rfl rfl) ?_
      refine Eq.trans (jr_s (pc2 := 2) (lv2 := [(0, .ref 117), (1, .int (-2147483629))]) (st2 := [.long (-2147483629)]) jF_267_1 rfl rfl) ?_
      refine Eq.trans (jr_s (pc2 := 3) (lv2 := [(0, .ref 117), (1, .int (-2147483629))]) (st2 := [.long 0, .long (-2147483629)]) jF_267_2 rfl rfl) ?_
      refine Eq.trans (jr_s (pc2 := 6) (lv2 := [(0, .ref 117), (1, .int (-2147483629))]) (st2 := [.long 17, .long 0, .long (-2147483629)]) jF_267_3 rfl rfl) ?_
      refine Eq.trans (jr_cS (as := [.long (-2147483629), .long 0, .long 17]) (rest := []) (v := some (.int 0)) (hp2 := jh2) (fr2 := 498) (lo2 := 19954) jF_267_6 rfl (show j_cnd 499 19979 498 19954 6 _ _ = true from rfl) ?_) ?_
      · refine Eq.trans (jr_s (pc2 := 1) (lv2 := [(0, .long (-2147483629)), (2, .long 0), (4, .long 17)]) (st2 := [.long (-2147483629)]) jF_232_0 rfl rfl) ?_
        refine Eq.trans (jr_s (pc2 := 2) (lv2 := [(0, .long (-2147483629)), (2, .long 0), (4, .long 17)]) (st2 := [.long 0, .long (-2147483629)]) jF_232_1 rfl rfl) ?_
        refine Eq.trans (jr_s (pc2 := 3) (lv2 := [(0, .long (-2147483629)), (2, .long 0), (4, .long 17)]) (st2 := [.int (-1)]) jF_232_2 rfl rfl) ?_
        refine Eq.trans (jr_if1 jF_232_3 (by decide +kernel)) ?_
        refine Eq.trans (jr_s (pc2 := 18) (lv2 := [(0, .long (-2147483629)), (2, .long 0), (4, .long 17)]) (st2 := [.int 0]) jF_232_17 rfl rfl) ?_
        exact jr_ri jF_232_18 rfl
      refine Eq.trans (jr_if1 jF_267_9 (by decide +kernel)) ?_
      refine Eq.trans (jr_s (pc2 := 23) (lv2 := [(0, .ref 117), (1, .int (-2147483629))]) (st2 := [.int (-2147483629)]) jF_267_22 rfl rfl) ?_
      refine Eq.trans (jr_s (pc2 := 25) (lv2 := [(0, .ref 117), (1, .int (-2147483629))]) (st2 := [.int 20, .int (-2147483629)]) jF_267_23 rfl rfl) ?_
      refine Eq.trans (jr_s (pc2 := 26) (lv2 := [(0, .ref 117), (1, .int (-2147483629))]) (st2 := [.int 2147483647]) jF_267_25 rfl rfl) ?_
      refine Eq.trans (jr_s (pc2 := 27) (lv2 := [(0, .ref 117), (1, .int (-2147483629))]) (st2 := [.long 2147483647]) jF_267_26 rfl rfl) ?_
      refine Eq.trans (jr_s (pc2 := 28) (lv2 := [(0, .ref 117), (1, .int (-2147483629))]) (st2 := [.long 0, .long 2147483647]) jF_267_27 rfl rfl) ?_
      refine Eq.trans (jr_s (pc2 := 29) (lv2 := [(0, .ref 117), (1, .int (-2147483629))]) (st2 := [.ref 117, .long 0, .long 2147483647]) jF_267_28 rfl rfl) ?_
      refine Eq.trans (jr_gf (v := .int 0) jF_267_29 (by decide +kernel)) ?_
      refine Eq.trans (jr_s (pc2 := 33) (lv2 := [(0, .ref 117), (1, .int (-2147483629))]) (st2 := [.int 1, .int 0, .long 0, .long 2147483647]) jF_267_32 rfl rfl) ?_
      refine Eq.trans (jr_s (pc2 := 34) (lv2 := [(0, .ref 117), (1, .int (-2147483629))]) (st2 := [.int (-1), .long 0, .long 2147483647]) jF_267_33 rfl rfl) ?_
      refine Eq.trans (jr_s (pc2 := 35) (lv2 := [(0, .ref 117), (1, .int (-2147483629))]) (st2 := [.long (-1), .long 0, .long 2147483647]) jF_267_34 rfl rfl) ?_
      refine Eq.trans (jr_cS (as := [.long 2147483647, .long 0, .long (-1)]) (rest := []) (v := some (.int 0)) (hp2 := jh2) (fr2 := 498) (lo2 := 19954) jF_267_35 rfl (show j_cnd 499 19979 498 19954 6 _ _ = true from rfl) ?_) ?_
      · refine Eq.trans (jr_s (pc2 := 1) (lv2 := [(0, .long 2147483647), (2, .long 0), (4, .long (-1))]) (st2 := [.long 2147483647]) jF_232_0 rfl rfl) ?_
        refine Eq.trans (jr_s (pc2 := 2) (lv2 := [(0, .long 2147483647), (2, .long 0), (4, .long (-1))]) (st2 := [.long 0, .long 2147483647]) jF_232_1 rfl rfl) ?_
        refine Eq.trans (jr_s (pc2 := 3) (lv2 := [(0, .long 2147483647), (2, .long 0), (4, .long (-1))]) (st2 := [.int 1]) jF_232_2 rfl rfl) ?_
        refine Eq.trans (jr_if0 jF_232_3 (by decide +kernel)) ?_
        refine Eq.trans (jr_s (pc2 := 7) (lv2 := [(0, .long 2147483647), (2, .long 0), (4, .long (-1))]) (st2 := [.long 2147483647]) jF_232_6 rfl rfl) ?_
        refine Eq.trans (jr_s (pc2 := 9) (lv2 := [(0, .long 2147483647), (2, .long 0), (4, .long (-1))]) (st2 := [.long (-1), .long 2147483647]) jF_232_7 rfl rfl) ?_
        refine Eq.trans (jr_s (pc2 := 10) (lv2 := [(0, .long 2147483647), (2, .long 0), (4, .long (-1))]) (st2 := [.int 1]) jF_232_9 rfl rfl) ?_
        refine Eq.trans (jr_if1 jF_232_10 (by decide +kernel)) ?_
        refine Eq.trans (jr_s (pc2 := 18) (lv2 := [(0, .long 2147483647), (2, .long 0), (4, .long (-1))]) (st2 := [.int 0]) jF_232_17 rfl rfl) ?_
        exact jr_ri jF_232_18 rfl
      refine Eq.trans (jr_if1 jF_267_38 (by decide +kernel)) ?_
      refine Eq.trans (jr_s (pc2 := 56) (lv2 := [(0, .ref 117), (1, .int (-2147483629))]) (st2 := [.long 0]) jF_267_55 rfl rfl) ?_
      exact jr_rl jF_267_56
    refine Eq.trans (jr_s (pc2 := 6) (lv2 := [(3, .long 0), (0, .ref 117), (1, .int (-2147483629)), (2, .int a2)]) (st2 := []) jF_266_5 rfl rfl) ?_
    refine Eq.trans (jr_s (pc2 := 7) (lv2 := [(3, .long 0), (0, .ref 117), (1, .int (-2147483629)), (2, .int a2)]) (st2 := [.long 0]) jF_266_6 rfl rfl) ?_
    refine Eq.trans (jr_s (pc2 := 8) (lv2 := [(3, .long 0), (0, .ref 117), (1, .int (-2147483629)), (2, .int a2)]) (st2 := [.long 0, .long 0]) jF_266_7 rfl rfl) ?_
    refine Eq.trans (jr_s (pc2 := 9) (lv2 := [(3, .long 0), (0, .ref 117), (1, .int (-2147483629)), (2, .int a2)]) (st2 := [.int 0]) jF_266_8 rfl rfl) ?_
    refine Eq.trans (jr_if1 jF_266_9 (by decide +kernel)) ?_
    refine Eq.trans (jr_s (pc2 := 25) (lv2 := [(3, .long 0), (0, .ref 117), (1, .int (-2147483629)), (2, .int a2)]) (st2 := [.int (-1)]) jF_266_24 rfl rfl) ?_
    exact jr_ri jF_266_25 rfl
set_option maxHeartbeats 8000000 in
set_option maxRecDepth 100000 in
theorem pm_letter_L20 (a1 a2 : Int32) (hl_a1 : (-2147483628) ≤ a1.toInt) (hh_a1 : a1.toInt ≤ (-1)) (hl_a2 : (-2147483648) ≤ a2.toInt) (hh_a2 : a2.toInt ≤ 2147483647) : PM 92 266 [.int a1, .int a2] := by
  refine ⟨60000, 60000, (-1), jh2, jh2, ?_, ?_, by decide +kernel⟩
  · refine Eq.trans (jr_s (pc2 := 1) (lv2 := [(0, .ref 9), (1, .int a1), (2, .int a2)]) (st2 := [.ref 9]) jF_92_0 rfl rfl) ?_
    refine Eq.trans (jr_gf (v := .ref 20) jF_92_1 (by decide +kernel)) ?_
    refine Eq.trans (jr_s (pc2 := 5) (lv2 := [(0, .ref 9), (1, .int a1), (2, .int a2)]) (st2 := [.int a1, .ref 20]) jF_92_4 rfl rfl) ?_
    refine Eq.trans (jr_s (pc2 := 6) (lv2 := [(0, .ref 9), (1, .int a1), (2, .int a2)]) (st2 := [.int a2, .int a1, .ref 20]) jF_92_5 rfl rfl) ?_
    refine Eq.trans (jr_cV (a := 20) (as := [.int a1, .int a2]) (rest := []) (v := some (.int (-1))) (hp2 := jh2) (fr2 := 499) (lo2 := 19978) jF_92_6 (by decide +kernel) rfl (show j_cnd 500 20000 499 19978 3 _ _ = true from rfl) ?_) ?_
    · refine Eq.trans (jr_s (pc2 := 1) (lv2 := [(0, .ref 20), (1, .int a1), (2, .int a2)]) (st2 := [.int a1]) jF_93_0 rfl rfl) ?_
      refine Eq.trans (jr_if1 jF_93_1 (jk_lt_lt (show (a1 : Int32).toInt < (0 : Int32).toInt by rw [show (0 : Int32).toInt = 0 from by decide]; omega))) ?_
      refine Eq.trans (jr_s (pc2 := 33) (lv2 := [(0, .ref 20), (1, .int a1), (2, .int a2)]) (st2 := [.int (-1)]) jF_93_32 rfl rfl) ?_
      exact jr_ri jF_93_33 rfl
    exact jr_ri jF_92_9 rfl
  · refine Eq.trans (jr_s (pc2 := 1) (lv2 := [(0, .ref 117), (1, .int a1), (2, .int a2)]) (st2 := [.ref 117]) jF_266_0 rfl rfl) ?_
    refine Eq.trans (jr_s (pc2 := 2) (lv2 := [(0, .ref 117), (1, .int a1), (2, .int a2)]) (st2 := [.int a1, .ref 117]) jF_266_1 rfl rfl) ?_
    refine Eq.trans (jr_cV (a := 117) (as := [.int a1]) (rest := []) (v := some (.long 0)) (hp2 := jh2) (fr2 := 499) (lo2 := 19979) jF_266_2 (by decide +kernel) rfl (show j_cnd 500 20000 499 19979 2 _ _ = true from rfl) ?_) ?_
    · refine Eq.trans (jr_s (pc2 := 1) (lv2 := [(0, .ref 117), (1, .int a1)]) (st2 := [.int a1]) jF_267_0 rfl rfl) ?_
      refine Eq.trans (jr_s (pc2 := 2) (lv2 := [(0, .ref 117), (1, .int a1)]) (st2 := [.long (Int32.toInt64 a1)]) jF_267_1 rfl rfl) ?_
      refine Eq.trans (jr_s (pc2 := 3) (lv2 := [(0, .ref 117), (1, .int a1)]) (st2 := [.long 0, .long (Int32.toInt64 a1)]) jF_267_2 rfl rfl) ?_
      refine Eq.trans (jr_s (pc2 := 6) (lv2 := [(0, .ref 117), (1, .int a1)]) (st2 := [.long 17, .long 0, .long (Int32.toInt64 a1)]) jF_267_3 rfl rfl) ?_
      refine Eq.trans (jr_cS (as := [.long (Int32.toInt64 a1), .long 0, .long 17]) (rest := []) (v := some (.int 0)) (hp2 := jh2) (fr2 := 498) (lo2 := 19954) jF_267_6 rfl (show j_cnd 499 19979 498 19954 6 _ _ = true from rfl) ?_) ?_
      · refine Eq.trans (jr_s (pc2 := 1) (lv2 := [(0, .long (Int32.toInt64 a1)), (2, .long 0), (4, .long 17)]) (st2 := [.long (Int32.toInt64 a1)]) jF_232_0 rfl rfl) ?_
        refine Eq.trans (jr_s (pc2 := 2) (lv2 := [(0, .long (Int32.toInt64 a1)), (2, .long 0), (4, .long 17)]) (st2 := [.long 0, .long (Int32.toInt64 a1)]) jF_232_1 rfl rfl) ?_
        refine Eq.trans (jr_s (pc2 := 3) (lv2 := [(0, .long (Int32.toInt64 a1)), (2, .long 0), (4, .long 17)]) (st2 := [.int (lg_cmp (Int32.toInt64 a1) 0)]) jF_232_2 rfl rfl) ?_
        refine Eq.trans (jr_if1 jF_232_3 (jkl_lt_lt (show ((Int32.toInt64 a1) : Int64).toInt < (0 : Int64).toInt by rw [Int32.toInt_toInt64, show (0 : Int64).toInt = 0 from by decide]; omega))) ?_
        refine Eq.trans (jr_s (pc2 := 18) (lv2 := [(0, .long (Int32.toInt64 a1)), (2, .long 0), (4, .long 17)]) (st2 := [.int 0]) jF_232_17 rfl rfl) ?_
        exact jr_ri jF_232_18 rfl
      refine Eq.trans (jr_if1 jF_267_9 (by decide +kernel)) ?_
      refine Eq.trans (jr_s (pc2 := 23) (lv2 := [(0, .ref 117), (1, .int a1)]) (st2 := [.int a1]) jF_267_22 rfl rfl) ?_
      refine Eq.trans (jr_s (pc2 := 25) (lv2 := [(0, .ref 117), (1, .int a1)]) (st2 := [.int 20, .int a1]) jF_267_23 rfl rfl) ?_
      refine Eq.trans (jr_s (pc2 := 26) (lv2 := [(0, .ref 117), (1, .int a1)]) (st2 := [.int (a1 - 20)]) jF_267_25 rfl rfl) ?_
      refine Eq.trans (jr_s (pc2 := 27) (lv2 := [(0, .ref 117), (1, .int a1)]) (st2 := [.long (Int32.toInt64 (a1 - 20))]) jF_267_26 rfl rfl) ?_
      refine Eq.trans (jr_s (pc2 := 28) (lv2 := [(0, .ref 117), (1, .int a1)]) (st2 := [.long 0, .long (Int32.toInt64 (a1 - 20))]) jF_267_27 rfl rfl) ?_
      refine Eq.trans (jr_s (pc2 := 29) (lv2 := [(0, .ref 117), (1, .int a1)]) (st2 := [.ref 117, .long 0, .long (Int32.toInt64 (a1 - 20))]) jF_267_28 rfl rfl) ?_
      refine Eq.trans (jr_gf (v := .int 0) jF_267_29 (by decide +kernel)) ?_
      refine Eq.trans (jr_s (pc2 := 33) (lv2 := [(0, .ref 117), (1, .int a1)]) (st2 := [.int 1, .int 0, .long 0, .long (Int32.toInt64 (a1 - 20))]) jF_267_32 rfl rfl) ?_
      refine Eq.trans (jr_s (pc2 := 34) (lv2 := [(0, .ref 117), (1, .int a1)]) (st2 := [.int (-1), .long 0, .long (Int32.toInt64 (a1 - 20))]) jF_267_33 rfl rfl) ?_
      refine Eq.trans (jr_s (pc2 := 35) (lv2 := [(0, .ref 117), (1, .int a1)]) (st2 := [.long (-1), .long 0, .long (Int32.toInt64 (a1 - 20))]) jF_267_34 rfl rfl) ?_
      refine Eq.trans (jr_cS (as := [.long (Int32.toInt64 (a1 - 20)), .long 0, .long (-1)]) (rest := []) (v := some (.int 0)) (hp2 := jh2) (fr2 := 498) (lo2 := 19954) jF_267_35 rfl (show j_cnd 499 19979 498 19954 6 _ _ = true from rfl) ?_) ?_
      · refine Eq.trans (jr_s (pc2 := 1) (lv2 := [(0, .long (Int32.toInt64 (a1 - 20))), (2, .long 0), (4, .long (-1))]) (st2 := [.long (Int32.toInt64 (a1 - 20))]) jF_232_0 rfl rfl) ?_
        refine Eq.trans (jr_s (pc2 := 2) (lv2 := [(0, .long (Int32.toInt64 (a1 - 20))), (2, .long 0), (4, .long (-1))]) (st2 := [.long 0, .long (Int32.toInt64 (a1 - 20))]) jF_232_1 rfl rfl) ?_
        refine Eq.trans (jr_s (pc2 := 3) (lv2 := [(0, .long (Int32.toInt64 (a1 - 20))), (2, .long 0), (4, .long (-1))]) (st2 := [.int (lg_cmp (Int32.toInt64 (a1 - 20)) 0)]) jF_232_2 rfl rfl) ?_
        refine Eq.trans (jr_if1 jF_232_3 (jkl_lt_lt (show ((Int32.toInt64 (a1 - 20)) : Int64).toInt < (0 : Int64).toInt by rw [Int32.toInt_toInt64, jo_sub (x := a1) (k := 20) (n := 20) (by decide) (by omega) (by omega), show (0 : Int64).toInt = 0 from by decide]; omega))) ?_
        refine Eq.trans (jr_s (pc2 := 18) (lv2 := [(0, .long (Int32.toInt64 (a1 - 20))), (2, .long 0), (4, .long (-1))]) (st2 := [.int 0]) jF_232_17 rfl rfl) ?_
        exact jr_ri jF_232_18 rfl
      refine Eq.trans (jr_if1 jF_267_38 (by decide +kernel)) ?_
      refine Eq.trans (jr_s (pc2 := 56) (lv2 := [(0, .ref 117), (1, .int a1)]) (st2 := [.long 0]) jF_267_55 rfl rfl) ?_
      exact jr_rl jF_267_56
    refine Eq.trans (jr_s (pc2 := 6) (lv2 := [(3, .long 0), (0, .ref 117), (1, .int a1), (2, .int a2)]) (st2 := []) jF_266_5 rfl rfl) ?_
    refine Eq.trans (jr_s (pc2 := 7) (lv2 := [(3, .long 0), (0, .ref 117), (1, .int a1), (2, .int a2)]) (st2 := [.long 0]) jF_266_6 rfl rfl) ?_
    refine Eq.trans (jr_s (pc2 := 8) (lv2 := [(3, .long 0), (0, .ref 117), (1, .int a1), (2, .int a2)]) (st2 := [.long 0, .long 0]) jF_266_7 rfl rfl) ?_
    refine Eq.trans (jr_s (pc2 := 9) (lv2 := [(3, .long 0), (0, .ref 117), (1, .int a1), (2, .int a2)]) (st2 := [.int 0]) jF_266_8 rfl rfl) ?_
    refine Eq.trans (jr_if1 jF_266_9 (by decide +kernel)) ?_
    refine Eq.trans (jr_s (pc2 := 25) (lv2 := [(3, .long 0), (0, .ref 117), (1, .int a1), (2, .int a2)]) (st2 := [.int (-1)]) jF_266_24 rfl rfl) ?_
    exact jr_ri jF_266_25 rfl
set_option maxHeartbeats 8000000 in
set_option maxRecDepth 100000 in
theorem pm_letter_L21 (a2 : Int32) (hl_a2 : (-2147483648) ≤ a2.toInt) (hh_a2 : a2.toInt ≤ (-1)) : PM 92 266 [.int 0, .int a2] := by
  refine ⟨60000, 60000, (-1), jh2, jh2, ?_, ?_, by decide +kernel⟩
  · refine Eq.trans (jr_s (pc2 := 1) (lv2 := [(0, .ref 9), (1, .int 0), (2, .int a2)]) (st2 := [.ref 9]) jF_92_0 rfl rfl) ?_
    refine Eq.trans (jr_gf (v := .ref 20) jF_92_1 (by decide +kernel)) ?_
    refine Eq.trans (jr_s (pc2 := 5) (lv2 := [(0, .ref 9), (1, .int 0), (2, .int a2)]) (st2 := [.int 0, .ref 20]) jF_92_4 rfl rfl) ?_
    refine Eq.trans (jr_s (pc2 := 6) (lv2 := [(0, .ref 9), (1, .int 0), (2, .int a2)]) (st2 := [.int a2, .int 0, .ref 20]) jF_92_5 rfl rfl) ?_
    refine Eq.trans (jr_cV (a := 20) (as := [.int 0, .int a2]) (rest := []) (v := some (.int (-1))) (hp2 := jh2) (fr2 := 499) (lo2 := 19978) jF_92_6 (by decide +kernel) rfl (show j_cnd 500 20000 499 19978 3 _ _ = true from rfl) ?_) ?_
    · refine Eq.trans (jr_s (pc2 := 1) (lv2 := [(0, .ref 20), (1, .int 0), (2, .int a2)]) (st2 := [.int 0]) jF_93_0 rfl rfl) ?_
      refine Eq.trans (jr_if0 jF_93_1 (by decide +kernel)) ?_
      refine Eq.trans (jr_s (pc2 := 5) (lv2 := [(0, .ref 20), (1, .int 0), (2, .int a2)]) (st2 := [.int 0]) jF_93_4 rfl rfl) ?_
      refine Eq.trans (jr_s (pc2 := 6) (lv2 := [(0, .ref 20), (1, .int 0), (2, .int a2)]) (st2 := [.ref 20, .int 0]) jF_93_5 rfl rfl) ?_
      refine Eq.trans (jr_gf (v := .ref 21) jF_93_6 (by decide +kernel)) ?_
      refine Eq.trans (jr_al (v := 25) jF_93_9 (by decide +kernel)) ?_
      refine Eq.trans (jr_ic0 jF_93_10 (by decide +kernel)) ?_
      refine Eq.trans (jr_s (pc2 := 14) (lv2 := [(0, .ref 20), (1, .int 0), (2, .int a2)]) (st2 := [.int a2]) jF_93_13 rfl rfl) ?_
      refine Eq.trans (jr_if1 jF_93_14 (jk_lt_lt (show (a2 : Int32).toInt < (0 : Int32).toInt by rw [show (0 : Int32).toInt = 0 from by decide]; omega))) ?_
      refine Eq.trans (jr_s (pc2 := 33) (lv2 := [(0, .ref 20), (1, .int 0), (2, .int a2)]) (st2 := [.int (-1)]) jF_93_32 rfl rfl) ?_
      exact jr_ri jF_93_33 rfl
    exact jr_ri jF_92_9 rfl
  · refine Eq.trans (jr_s (pc2 := 1) (lv2 := [(0, .ref 117), (1, .int 0), (2, .int a2)]) (st2 := [.ref 117]) jF_266_0 rfl rfl) ?_
    refine Eq.trans (jr_s (pc2 := 2) (lv2 := [(0, .ref 117), (1, .int 0), (2, .int a2)]) (st2 := [.int 0, .ref 117]) jF_266_1 rfl rfl) ?_
    refine Eq.trans (jr_cV (a := 117) (as := [.int 0]) (rest := []) (v := some (.long 0)) (hp2 := jh2) (fr2 := 499) (lo2 := 19979) jF_266_2 (by decide +kernel) rfl (show j_cnd 500 20000 499 19979 2 _ _ = true from rfl) ?_) ?_
    · refine Eq.trans (jr_s (pc2 := 1) (lv2 := [(0, .ref 117), (1, .int 0)]) (st2 := [.int 0]) jF_267_0 rfl rfl) ?_
      refine Eq.trans (jr_s (pc2 := 2) (lv2 := [(0, .ref 117), (1, .int 0)]) (st2 := [.long 0]) jF_267_1 rfl rfl) ?_
      refine Eq.trans (jr_s (pc2 := 3) (lv2 := [(0, .ref 117), (1, .int 0)]) (st2 := [.long 0, .long 0]) jF_267_2 rfl rfl) ?_
      refine Eq.trans (jr_s (pc2 := 6) (lv2 := [(0, .ref 117), (1, .int 0)]) (st2 := [.long 17, .long 0, .long 0]) jF_267_3 rfl rfl) ?_
      refine Eq.trans (jr_cS (as := [.long 0, .long 0, .long 17]) (rest := []) (v := some (.int 1)) (hp2 := jh2) (fr2 := 498) (lo2 := 19954) jF_267_6 rfl (show j_cnd 499 19979 498 19954 6 _ _ = true from rfl) ?_) ?_
      · refine Eq.trans (jr_s (pc2 := 1) (lv2 := [(0, .long 0), (2, .long 0), (4, .long 17)]) (st2 := [.long 0]) jF_232_0 rfl rfl) ?_
        refine Eq.trans (jr_s (pc2 := 2) (lv2 := [(0, .long 0), (2, .long 0), (4, .long 17)]) (st2 := [.long 0, .long 0]) jF_232_1 rfl rfl) ?_
        refine Eq.trans (jr_s (pc2 := 3) (lv2 := [(0, .long 0), (2, .long 0), (4, .long 17)]) (st2 := [.int 0]) jF_232_2 rfl rfl) ?_
        refine Eq.trans (jr_if0 jF_232_3 (by decide +kernel)) ?_
        refine Eq.trans (jr_s (pc2 := 7) (lv2 := [(0, .long 0), (2, .long 0), (4, .long 17)]) (st2 := [.long 0]) jF_232_6 rfl rfl) ?_
        refine Eq.trans (jr_s (pc2 := 9) (lv2 := [(0, .long 0), (2, .long 0), (4, .long 17)]) (st2 := [.long 17, .long 0]) jF_232_7 rfl rfl) ?_
        refine Eq.trans (jr_s (pc2 := 10) (lv2 := [(0, .long 0), (2, .long 0), (4, .long 17)]) (st2 := [.int (-1)]) jF_232_9 rfl rfl) ?_
        refine Eq.trans (jr_if0 jF_232_10 (by decide +kernel)) ?_
        refine Eq.trans (jr_s (pc2 := 14) (lv2 := [(0, .long 0), (2, .long 0), (4, .long 17)]) (st2 := [.int 1]) jF_232_13 rfl rfl) ?_
        refine Eq.trans (jr_s (pc2 := 18) (lv2 := [(0, .long 0), (2, .long 0), (4, .long 17)]) (st2 := [.int 1]) jF_232_14 rfl rfl) ?_
        exact jr_ri jF_232_18 rfl
      refine Eq.trans (jr_if0 jF_267_9 (by decide +kernel)) ?_
      refine Eq.trans (jr_s (pc2 := 13) (lv2 := [(0, .ref 117), (1, .int 0)]) (st2 := [.ref 117]) jF_267_12 rfl rfl) ?_
      refine Eq.trans (jr_gf (v := .ref 138) jF_267_13 (by decide +kernel)) ?_
      refine Eq.trans (jr_s (pc2 := 18) (lv2 := [(0, .ref 117), (1, .int 0)]) (st2 := [.int 18, .ref 138]) jF_267_16 rfl rfl) ?_
      refine Eq.trans (jr_s (pc2 := 19) (lv2 := [(0, .ref 117), (1, .int 0)]) (st2 := [.int 0, .int 18, .ref 138]) jF_267_18 rfl rfl) ?_
      refine Eq.trans (jr_s (pc2 := 20) (lv2 := [(0, .ref 117), (1, .int 0)]) (st2 := [.int 18, .ref 138]) jF_267_19 rfl rfl) ?_
      refine Eq.trans (jr_ldl (v := .long 0) jF_267_20 (by decide +kernel)) ?_
      exact jr_rl jF_267_21
    refine Eq.trans (jr_s (pc2 := 6) (lv2 := [(3, .long 0), (0, .ref 117), (1, .int 0), (2, .int a2)]) (st2 := []) jF_266_5 rfl rfl) ?_
    refine Eq.trans (jr_s (pc2 := 7) (lv2 := [(3, .long 0), (0, .ref 117), (1, .int 0), (2, .int a2)]) (st2 := [.long 0]) jF_266_6 rfl rfl) ?_
    refine Eq.trans (jr_s (pc2 := 8) (lv2 := [(3, .long 0), (0, .ref 117), (1, .int 0), (2, .int a2)]) (st2 := [.long 0, .long 0]) jF_266_7 rfl rfl) ?_
    refine Eq.trans (jr_s (pc2 := 9) (lv2 := [(3, .long 0), (0, .ref 117), (1, .int 0), (2, .int a2)]) (st2 := [.int 0]) jF_266_8 rfl rfl) ?_
    refine Eq.trans (jr_if1 jF_266_9 (by decide +kernel)) ?_
    refine Eq.trans (jr_s (pc2 := 25) (lv2 := [(3, .long 0), (0, .ref 117), (1, .int 0), (2, .int a2)]) (st2 := [.int (-1)]) jF_266_24 rfl rfl) ?_
    exact jr_ri jF_266_25 rfl
set_option maxHeartbeats 8000000 in
set_option maxRecDepth 100000 in
theorem pm_letter_L22 (a2 : Int32) (hl_a2 : (-2147483648) ≤ a2.toInt) (hh_a2 : a2.toInt ≤ (-1)) : PM 92 266 [.int 1, .int a2] := by
  refine ⟨60000, 60000, (-1), jh2, jh2, ?_, ?_, by decide +kernel⟩
  · refine Eq.trans (jr_s (pc2 := 1) (lv2 := [(0, .ref 9), (1, .int 1), (2, .int a2)]) (st2 := [.ref 9]) jF_92_0 rfl rfl) ?_
    refine Eq.trans (jr_gf (v := .ref 20) jF_92_1 (by decide +kernel)) ?_
    refine Eq.trans (jr_s (pc2 := 5) (lv2 := [(0, .ref 9), (1, .int 1), (2, .int a2)]) (st2 := [.int 1, .ref 20]) jF_92_4 rfl rfl) ?_
    refine Eq.trans (jr_s (pc2 := 6) (lv2 := [(0, .ref 9), (1, .int 1), (2, .int a2)]) (st2 := [.int a2, .int 1, .ref 20]) jF_92_5 rfl rfl) ?_
    refine Eq.trans (jr_cV (a := 20) (as := [.int 1, .int a2]) (rest := []) (v := some (.int (-1))) (hp2 := jh2) (fr2 := 499) (lo2 := 19978) jF_92_6 (by decide +kernel) rfl (show j_cnd 500 20000 499 19978 3 _ _ = true from rfl) ?_) ?_
    · refine Eq.trans (jr_s (pc2 := 1) (lv2 := [(0, .ref 20), (1, .int 1), (2, .int a2)]) (st2 := [.int 1]) jF_93_0 rfl rfl) ?_
      refine Eq.trans (jr_if0 jF_93_1 (by decide +kernel)) ?_
      refine Eq.trans (jr_s (pc2 := 5) (lv2 := [(0, .ref 20), (1, .int 1), (2, .int a2)]) (st2 := [.int 1]) jF_93_4 rfl rfl) ?_
      refine Eq.trans (jr_s (pc2 := 6) (lv2 := [(0, .ref 20), (1, .int 1), (2, .int a2)]) (st2 := [.ref 20, .int 1]) jF_93_5 rfl rfl) ?_
      refine Eq.trans (jr_gf (v := .ref 21) jF_93_6 (by decide +kernel)) ?_
      refine Eq.trans (jr_al (v := 25) jF_93_9 (by decide +kernel)) ?_
      refine Eq.trans (jr_ic0 jF_93_10 (by decide +kernel)) ?_
      refine Eq.trans (jr_s (pc2 := 14) (lv2 := [(0, .ref 20), (1, .int 1), (2, .int a2)]) (st2 := [.int a2]) jF_93_13 rfl rfl) ?_
      refine Eq.trans (jr_if1 jF_93_14 (jk_lt_lt (show (a2 : Int32).toInt < (0 : Int32).toInt by rw [show (0 : Int32).toInt = 0 from by decide]; omega))) ?_
      refine Eq.trans (jr_s (pc2 := 33) (lv2 := [(0, .ref 20), (1, .int 1), (2, .int a2)]) (st2 := [.int (-1)]) jF_93_32 rfl rfl) ?_
      exact jr_ri jF_93_33 rfl
    exact jr_ri jF_92_9 rfl
  · refine Eq.trans (jr_s (pc2 := 1) (lv2 := [(0, .ref 117), (1, .int 1), (2, .int a2)]) (st2 := [.ref 117]) jF_266_0 rfl rfl) ?_
    refine Eq.trans (jr_s (pc2 := 2) (lv2 := [(0, .ref 117), (1, .int 1), (2, .int a2)]) (st2 := [.int 1, .ref 117]) jF_266_1 rfl rfl) ?_
    refine Eq.trans (jr_cV (a := 117) (as := [.int 1]) (rest := []) (v := some (.long 0)) (hp2 := jh2) (fr2 := 499) (lo2 := 19979) jF_266_2 (by decide +kernel) rfl (show j_cnd 500 20000 499 19979 2 _ _ = true from rfl) ?_) ?_
    · refine Eq.trans (jr_s (pc2 := 1) (lv2 := [(0, .ref 117), (1, .int 1)]) (st2 := [.int 1]) jF_267_0 rfl rfl) ?_
      refine Eq.trans (jr_s (pc2 := 2) (lv2 := [(0, .ref 117), (1, .int 1)]) (st2 := [.long 1]) jF_267_1 rfl rfl) ?_
      refine Eq.trans (jr_s (pc2 := 3) (lv2 := [(0, .ref 117), (1, .int 1)]) (st2 := [.long 0, .long 1]) jF_267_2 rfl rfl) ?_
      refine Eq.trans (jr_s (pc2 := 6) (lv2 := [(0, .ref 117), (1, .int 1)]) (st2 := [.long 17, .long 0, .long 1]) jF_267_3 rfl rfl) ?_
      refine Eq.trans (jr_cS (as := [.long 1, .long 0, .long 17]) (rest := []) (v := some (.int 1)) (hp2 := jh2) (fr2 := 498) (lo2 := 19954) jF_267_6 rfl (show j_cnd 499 19979 498 19954 6 _ _ = true from rfl) ?_) ?_
      · refine Eq.trans (jr_s (pc2 := 1) (lv2 := [(0, .long 1), (2, .long 0), (4, .long 17)]) (st2 := [.long 1]) jF_232_0 rfl rfl) ?_
        refine Eq.trans (jr_s (pc2 := 2) (lv2 := [(0, .long 1), (2, .long 0), (4, .long 17)]) (st2 := [.long 0, .long 1]) jF_232_1 rfl rfl) ?_
        refine Eq.trans (jr_s (pc2 := 3) (lv2 := [(0, .long 1), (2, .long 0), (4, .long 17)]) (st2 := [.int 1]) jF_232_2 rfl rfl) ?_
        refine Eq.trans (jr_if0 jF_232_3 (by decide +kernel)) ?_
        refine Eq.trans (jr_s (pc2 := 7) (lv2 := [(0, .long 1), (2, .long 0), (4, .long 17)]) (st2 := [.long 1]) jF_232_6 rfl rfl) ?_
        refine Eq.trans (jr_s (pc2 := 9) (lv2 := [(0, .long 1), (2, .long 0), (4, .long 17)]) (st2 := [.long 17, .long 1]) jF_232_7 rfl rfl) ?_
        refine Eq.trans (jr_s (pc2 := 10) (lv2 := [(0, .long 1), (2, .long 0), (4, .long 17)]) (st2 := [.int (-1)]) jF_232_9 rfl rfl) ?_
        refine Eq.trans (jr_if0 jF_232_10 (by decide +kernel)) ?_
        refine Eq.trans (jr_s (pc2 := 14) (lv2 := [(0, .long 1), (2, .long 0), (4, .long 17)]) (st2 := [.int 1]) jF_232_13 rfl rfl) ?_
        refine Eq.trans (jr_s (pc2 := 18) (lv2 := [(0, .long 1), (2, .long 0), (4, .long 17)]) (st2 := [.int 1]) jF_232_14 rfl rfl) ?_
        exact jr_ri jF_232_18 rfl
      refine Eq.trans (jr_if0 jF_267_9 (by decide +kernel)) ?_
      refine Eq.trans (jr_s (pc2 := 13) (lv2 := [(0, .ref 117), (1, .int 1)]) (st2 := [.ref 117]) jF_267_12 rfl rfl) ?_
      refine Eq.trans (jr_gf (v := .ref 138) jF_267_13 (by decide +kernel)) ?_
      refine Eq.trans (jr_s (pc2 := 18) (lv2 := [(0, .ref 117), (1, .int 1)]) (st2 := [.int 18, .ref 138]) jF_267_16 rfl rfl) ?_
      refine Eq.trans (jr_s (pc2 := 19) (lv2 := [(0, .ref 117), (1, .int 1)]) (st2 := [.int 1, .int 18, .ref 138]) jF_267_18 rfl rfl) ?_
      refine Eq.trans (jr_s (pc2 := 20) (lv2 := [(0, .ref 117), (1, .int 1)]) (st2 := [.int 19, .ref 138]) jF_267_19 rfl rfl) ?_
      refine Eq.trans (jr_ldl (v := .long 0) jF_267_20 (by decide +kernel)) ?_
      exact jr_rl jF_267_21
    refine Eq.trans (jr_s (pc2 := 6) (lv2 := [(3, .long 0), (0, .ref 117), (1, .int 1), (2, .int a2)]) (st2 := []) jF_266_5 rfl rfl) ?_
    refine Eq.trans (jr_s (pc2 := 7) (lv2 := [(3, .long 0), (0, .ref 117), (1, .int 1), (2, .int a2)]) (st2 := [.long 0]) jF_266_6 rfl rfl) ?_
    refine Eq.trans (jr_s (pc2 := 8) (lv2 := [(3, .long 0), (0, .ref 117), (1, .int 1), (2, .int a2)]) (st2 := [.long 0, .long 0]) jF_266_7 rfl rfl) ?_
    refine Eq.trans (jr_s (pc2 := 9) (lv2 := [(3, .long 0), (0, .ref 117), (1, .int 1), (2, .int a2)]) (st2 := [.int 0]) jF_266_8 rfl rfl) ?_
    refine Eq.trans (jr_if1 jF_266_9 (by decide +kernel)) ?_
    refine Eq.trans (jr_s (pc2 := 25) (lv2 := [(3, .long 0), (0, .ref 117), (1, .int 1), (2, .int a2)]) (st2 := [.int (-1)]) jF_266_24 rfl rfl) ?_
    exact jr_ri jF_266_25 rfl
set_option maxHeartbeats 8000000 in
set_option maxRecDepth 100000 in
theorem pm_letter_L23 (a2 : Int32) (hl_a2 : (-2147483648) ≤ a2.toInt) (hh_a2 : a2.toInt ≤ (-1)) : PM 92 266 [.int 2, .int a2] := by
  refine ⟨60000, 60000, (-1), jh2, jh2, ?_, ?_, by decide +kernel⟩
  · refine Eq.trans (jr_s (pc2 := 1) (lv2 := [(0, .ref 9), (1, .int 2), (2, .int a2)]) (st2 := [.ref 9]) jF_92_0 rfl rfl) ?_
    refine Eq.trans (jr_gf (v := .ref 20) jF_92_1 (by decide +kernel)) ?_
    refine Eq.trans (jr_s (pc2 := 5) (lv2 := [(0, .ref 9), (1, .int 2), (2, .int a2)]) (st2 := [.int 2, .ref 20]) jF_92_4 rfl rfl) ?_
    refine Eq.trans (jr_s (pc2 := 6) (lv2 := [(0, .ref 9), (1, .int 2), (2, .int a2)]) (st2 := [.int a2, .int 2, .ref 20]) jF_92_5 rfl rfl) ?_
    refine Eq.trans (jr_cV (a := 20) (as := [.int 2, .int a2]) (rest := []) (v := some (.int (-1))) (hp2 := jh2) (fr2 := 499) (lo2 := 19978) jF_92_6 (by decide +kernel) rfl (show j_cnd 500 20000 499 19978 3 _ _ = true from rfl) ?_) ?_
    · refine Eq.trans (jr_s (pc2 := 1) (lv2 := [(0, .ref 20), (1, .int 2), (2, .int a2)]) (st2 := [.int 2]) jF_93_0 rfl rfl) ?_
      refine Eq.trans (jr_if0 jF_93_1 (by decide +kernel)) ?_
      refine Eq.trans (jr_s (pc2 := 5) (lv2 := [(0, .ref 20), (1, .int 2), (2, .int a2)]) (st2 := [.int 2]) jF_93_4 rfl rfl) ?_
      refine Eq.trans (jr_s (pc2 := 6) (lv2 := [(0, .ref 20), (1, .int 2), (2, .int a2)]) (st2 := [.ref 20, .int 2]) jF_93_5 rfl rfl) ?_
      refine Eq.trans (jr_gf (v := .ref 21) jF_93_6 (by decide +kernel)) ?_
      refine Eq.trans (jr_al (v := 25) jF_93_9 (by decide +kernel)) ?_
      refine Eq.trans (jr_ic0 jF_93_10 (by decide +kernel)) ?_
      refine Eq.trans (jr_s (pc2 := 14) (lv2 := [(0, .ref 20), (1, .int 2), (2, .int a2)]) (st2 := [.int a2]) jF_93_13 rfl rfl) ?_
      refine Eq.trans (jr_if1 jF_93_14 (jk_lt_lt (show (a2 : Int32).toInt < (0 : Int32).toInt by rw [show (0 : Int32).toInt = 0 from by decide]; omega))) ?_
      refine Eq.trans (jr_s (pc2 := 33) (lv2 := [(0, .ref 20), (1, .int 2), (2, .int a2)]) (st2 := [.int (-1)]) jF_93_32 rfl rfl) ?_
      exact jr_ri jF_93_33 rfl
    exact jr_ri jF_92_9 rfl
  · refine Eq.trans (jr_s (pc2 := 1) (lv2 := [(0, .ref 117), (1, .int 2), (2, .int a2)]) (st2 := [.ref 117]) jF_266_0 rfl rfl) ?_
    refine Eq.trans (jr_s (pc2 := 2) (lv2 := [(0, .ref 117), (1, .int 2), (2, .int a2)]) (st2 := [.int 2, .ref 117]) jF_266_1 rfl rfl) ?_
    refine Eq.trans (jr_cV (a := 117) (as := [.int 2]) (rest := []) (v := some (.long 0)) (hp2 := jh2) (fr2 := 499) (lo2 := 19979) jF_266_2 (by decide +kernel) rfl (show j_cnd 500 20000 499 19979 2 _ _ = true from rfl) ?_) ?_
    · refine Eq.trans (jr_s (pc2 := 1) (lv2 := [(0, .ref 117), (1, .int 2)]) (st2 := [.int 2]) jF_267_0 rfl rfl) ?_
      refine Eq.trans (jr_s (pc2 := 2) (lv2 := [(0, .ref 117), (1, .int 2)]) (st2 := [.long 2]) jF_267_1 rfl rfl) ?_
      refine Eq.trans (jr_s (pc2 := 3) (lv2 := [(0, .ref 117), (1, .int 2)]) (st2 := [.long 0, .long 2]) jF_267_2 rfl rfl) ?_
      refine Eq.trans (jr_s (pc2 := 6) (lv2 := [(0, .ref 117), (1, .int 2)]) (st2 := [.long 17, .long 0, .long 2]) jF_267_3 rfl rfl) ?_
      refine Eq.trans (jr_cS (as := [.long 2, .long 0, .long 17]) (rest := []) (v := some (.int 1)) (hp2 := jh2) (fr2 := 498) (lo2 := 19954) jF_267_6 rfl (show j_cnd 499 19979 498 19954 6 _ _ = true from rfl) ?_) ?_
      · refine Eq.trans (jr_s (pc2 := 1) (lv2 := [(0, .long 2), (2, .long 0), (4, .long 17)]) (st2 := [.long 2]) jF_232_0 rfl rfl) ?_
        refine Eq.trans (jr_s (pc2 := 2) (lv2 := [(0, .long 2), (2, .long 0), (4, .long 17)]) (st2 := [.long 0, .long 2]) jF_232_1 rfl rfl) ?_
        refine Eq.trans (jr_s (pc2 := 3) (lv2 := [(0, .long 2), (2, .long 0), (4, .long 17)]) (st2 := [.int 1]) jF_232_2 rfl rfl) ?_
        refine Eq.trans (jr_if0 jF_232_3 (by decide +kernel)) ?_
        refine Eq.trans (jr_s (pc2 := 7) (lv2 := [(0, .long 2), (2, .long 0), (4, .long 17)]) (st2 := [.long 2]) jF_232_6 rfl rfl) ?_
        refine Eq.trans (jr_s (pc2 := 9) (lv2 := [(0, .long 2), (2, .long 0), (4, .long 17)]) (st2 := [.long 17, .long 2]) jF_232_7 rfl rfl) ?_
        refine Eq.trans (jr_s (pc2 := 10) (lv2 := [(0, .long 2), (2, .long 0), (4, .long 17)]) (st2 := [.int (-1)]) jF_232_9 rfl rfl) ?_
        refine Eq.trans (jr_if0 jF_232_10 (by decide +kernel)) ?_
        refine Eq.trans (jr_s (pc2 := 14) (lv2 := [(0, .long 2), (2, .long 0), (4, .long 17)]) (st2 := [.int 1]) jF_232_13 rfl rfl) ?_
        refine Eq.trans (jr_s (pc2 := 18) (lv2 := [(0, .long 2), (2, .long 0), (4, .long 17)]) (st2 := [.int 1]) jF_232_14 rfl rfl) ?_
        exact jr_ri jF_232_18 rfl
      refine Eq.trans (jr_if0 jF_267_9 (by decide +kernel)) ?_
      refine Eq.trans (jr_s (pc2 := 13) (lv2 := [(0, .ref 117), (1, .int 2)]) (st2 := [.ref 117]) jF_267_12 rfl rfl) ?_
      refine Eq.trans (jr_gf (v := .ref 138) jF_267_13 (by decide +kernel)) ?_
      refine Eq.trans (jr_s (pc2 := 18) (lv2 := [(0, .ref 117), (1, .int 2)]) (st2 := [.int 18, .ref 138]) jF_267_16 rfl rfl) ?_
      refine Eq.trans (jr_s (pc2 := 19) (lv2 := [(0, .ref 117), (1, .int 2)]) (st2 := [.int 2, .int 18, .ref 138]) jF_267_18 rfl rfl) ?_
      refine Eq.trans (jr_s (pc2 := 20) (lv2 := [(0, .ref 117), (1, .int 2)]) (st2 := [.int 20, .ref 138]) jF_267_19 rfl rfl) ?_
      refine Eq.trans (jr_ldl (v := .long 0) jF_267_20 (by decide +kernel)) ?_
      exact jr_rl jF_267_21
    refine Eq.trans (jr_s (pc2 := 6) (lv2 := [(3, .long 0), (0, .ref 117), (1, .int 2), (2, .int a2)]) (st2 := []) jF_266_5 rfl rfl) ?_
    refine Eq.trans (jr_s (pc2 := 7) (lv2 := [(3, .long 0), (0, .ref 117), (1, .int 2), (2, .int a2)]) (st2 := [.long 0]) jF_266_6 rfl rfl) ?_
    refine Eq.trans (jr_s (pc2 := 8) (lv2 := [(3, .long 0), (0, .ref 117), (1, .int 2), (2, .int a2)]) (st2 := [.long 0, .long 0]) jF_266_7 rfl rfl) ?_
    refine Eq.trans (jr_s (pc2 := 9) (lv2 := [(3, .long 0), (0, .ref 117), (1, .int 2), (2, .int a2)]) (st2 := [.int 0]) jF_266_8 rfl rfl) ?_
    refine Eq.trans (jr_if1 jF_266_9 (by decide +kernel)) ?_
    refine Eq.trans (jr_s (pc2 := 25) (lv2 := [(3, .long 0), (0, .ref 117), (1, .int 2), (2, .int a2)]) (st2 := [.int (-1)]) jF_266_24 rfl rfl) ?_
    exact jr_ri jF_266_25 rfl
set_option maxHeartbeats 8000000 in
set_option maxRecDepth 100000 in
theorem pm_letter_L24 (a2 : Int32) (hl_a2 : (-2147483648) ≤ a2.toInt) (hh_a2 : a2.toInt ≤ (-1)) : PM 92 266 [.int 3, .int a2] := by
  refine ⟨60000, 60000, (-1), jh2, jh2, ?_, ?_, by decide +kernel⟩
  · refine Eq.trans (jr_s (pc2 := 1) (lv2 := [(0, .ref 9), (1, .int 3), (2, .int a2)]) (st2 := [.ref 9]) jF_92_0 rfl rfl) ?_
    refine Eq.trans (jr_gf (v := .ref 20) jF_92_1 (by decide +kernel)) ?_
    refine Eq.trans (jr_s (pc2 := 5) (lv2 := [(0, .ref 9), (1, .int 3), (2, .int a2)]) (st2 := [.int 3, .ref 20]) jF_92_4 rfl rfl) ?_
    refine Eq.trans (jr_s (pc2 := 6) (lv2 := [(0, .ref 9), (1, .int 3), (2, .int a2)]) (st2 := [.int a2, .int 3, .ref 20]) jF_92_5 rfl rfl) ?_
    refine Eq.trans (jr_cV (a := 20) (as := [.int 3, .int a2]) (rest := []) (v := some (.int (-1))) (hp2 := jh2) (fr2 := 499) (lo2 := 19978) jF_92_6 (by decide +kernel) rfl (show j_cnd 500 20000 499 19978 3 _ _ = true from rfl) ?_) ?_
    · refine Eq.trans (jr_s (pc2 := 1) (lv2 := [(0, .ref 20), (1, .int 3), (2, .int a2)]) (st2 := [.int 3]) jF_93_0 rfl rfl) ?_
      refine Eq.trans (jr_if0 jF_93_1 (by decide +kernel)) ?_
      refine Eq.trans (jr_s (pc2 := 5) (lv2 := [(0, .ref 20), (1, .int 3), (2, .int a2)]) (st2 := [.int 3]) jF_93_4 rfl rfl) ?_
      refine Eq.trans (jr_s (pc2 := 6) (lv2 := [(0, .ref 20), (1, .int 3), (2, .int a2)]) (st2 := [.ref 20, .int 3]) jF_93_5 rfl rfl) ?_
      refine Eq.trans (jr_gf (v := .ref 21) jF_93_6 (by decide +kernel)) ?_
      refine Eq.trans (jr_al (v := 25) jF_93_9 (by decide +kernel)) ?_
      refine Eq.trans (jr_ic0 jF_93_10 (by decide +kernel)) ?_
      refine Eq.trans (jr_s (pc2 := 14) (lv2 := [(0, .ref 20), (1, .int 3), (2, .int a2)]) (st2 := [.int a2]) jF_93_13 rfl rfl) ?_
      refine Eq.trans (jr_if1 jF_93_14 (jk_lt_lt (show (a2 : Int32).toInt < (0 : Int32).toInt by rw [show (0 : Int32).toInt = 0 from by decide]; omega))) ?_
      refine Eq.trans (jr_s (pc2 := 33) (lv2 := [(0, .ref 20), (1, .int 3), (2, .int a2)]) (st2 := [.int (-1)]) jF_93_32 rfl rfl) ?_
      exact jr_ri jF_93_33 rfl
    exact jr_ri jF_92_9 rfl
  · refine Eq.trans (jr_s (pc2 := 1) (lv2 := [(0, .ref 117), (1, .int 3), (2, .int a2)]) (st2 := [.ref 117]) jF_266_0 rfl rfl) ?_
    refine Eq.trans (jr_s (pc2 := 2) (lv2 := [(0, .ref 117), (1, .int 3), (2, .int a2)]) (st2 := [.int 3, .ref 117]) jF_266_1 rfl rfl) ?_
    refine Eq.trans (jr_cV (a := 117) (as := [.int 3]) (rest := []) (v := some (.long 0)) (hp2 := jh2) (fr2 := 499) (lo2 := 19979) jF_266_2 (by decide +kernel) rfl (show j_cnd 500 20000 499 19979 2 _ _ = true from rfl) ?_) ?_
    · refine Eq.trans (jr_s (pc2 := 1) (lv2 := [(0, .ref 117), (1, .int 3)]) (st2 := [.int 3]) jF_267_0 rfl rfl) ?_
      refine Eq.trans (jr_s (pc2 := 2) (lv2 := [(0, .ref 117), (1, .int 3)]) (st2 := [.long 3]) jF_267_1 rfl rfl) ?_
      refine Eq.trans (jr_s (pc2 := 3) (lv2 := [(0, .ref 117), (1, .int 3)]) (st2 := [.long 0, .long 3]) jF_267_2 rfl rfl) ?_
      refine Eq.trans (jr_s (pc2 := 6) (lv2 := [(0, .ref 117), (1, .int 3)]) (st2 := [.long 17, .long 0, .long 3]) jF_267_3 rfl rfl) ?_
      refine Eq.trans (jr_cS (as := [.long 3, .long 0, .long 17]) (rest := []) (v := some (.int 1)) (hp2 := jh2) (fr2 := 498) (lo2 := 19954) jF_267_6 rfl (show j_cnd 499 19979 498 19954 6 _ _ = true from rfl) ?_) ?_
      · refine Eq.trans (jr_s (pc2 := 1) (lv2 := [(0, .long 3), (2, .long 0), (4, .long 17)]) (st2 := [.long 3]) jF_232_0 rfl rfl) ?_
        refine Eq.trans (jr_s (pc2 := 2) (lv2 := [(0, .long 3), (2, .long 0), (4, .long 17)]) (st2 := [.long 0, .long 3]) jF_232_1 rfl rfl) ?_
        refine Eq.trans (jr_s (pc2 := 3) (lv2 := [(0, .long 3), (2, .long 0), (4, .long 17)]) (st2 := [.int 1]) jF_232_2 rfl rfl) ?_
        refine Eq.trans (jr_if0 jF_232_3 (by decide +kernel)) ?_
        refine Eq.trans (jr_s (pc2 := 7) (lv2 := [(0, .long 3), (2, .long 0), (4, .long 17)]) (st2 := [.long 3]) jF_232_6 rfl rfl) ?_
        refine Eq.trans (jr_s (pc2 := 9) (lv2 := [(0, .long 3), (2, .long 0), (4, .long 17)]) (st2 := [.long 17, .long 3]) jF_232_7 rfl rfl) ?_
        refine Eq.trans (jr_s (pc2 := 10) (lv2 := [(0, .long 3), (2, .long 0), (4, .long 17)]) (st2 := [.int (-1)]) jF_232_9 rfl rfl) ?_
        refine Eq.trans (jr_if0 jF_232_10 (by decide +kernel)) ?_
        refine Eq.trans (jr_s (pc2 := 14) (lv2 := [(0, .long 3), (2, .long 0), (4, .long 17)]) (st2 := [.int 1]) jF_232_13 rfl rfl) ?_
        refine Eq.trans (jr_s (pc2 := 18) (lv2 := [(0, .long 3), (2, .long 0), (4, .long 17)]) (st2 := [.int 1]) jF_232_14 rfl rfl) ?_
        exact jr_ri jF_232_18 rfl
      refine Eq.trans (jr_if0 jF_267_9 (by decide +kernel)) ?_
      refine Eq.trans (jr_s (pc2 := 13) (lv2 := [(0, .ref 117), (1, .int 3)]) (st2 := [.ref 117]) jF_267_12 rfl rfl) ?_
      refine Eq.trans (jr_gf (v := .ref 138) jF_267_13 (by decide +kernel)) ?_
      refine Eq.trans (jr_s (pc2 := 18) (lv2 := [(0, .ref 117), (1, .int 3)]) (st2 := [.int 18, .ref 138]) jF_267_16 rfl rfl) ?_
      refine Eq.trans (jr_s (pc2 := 19) (lv2 := [(0, .ref 117), (1, .int 3)]) (st2 := [.int 3, .int 18, .ref 138]) jF_267_18 rfl rfl) ?_
      refine Eq.trans (jr_s (pc2 := 20) (lv2 := [(0, .ref 117), (1, .int 3)]) (st2 := [.int 21, .ref 138]) jF_267_19 rfl rfl) ?_
      refine Eq.trans (jr_ldl (v := .long 0) jF_267_20 (by decide +kernel)) ?_
      exact jr_rl jF_267_21
    refine Eq.trans (jr_s (pc2 := 6) (lv2 := [(3, .long 0), (0, .ref 117), (1, .int 3), (2, .int a2)]) (st2 := []) jF_266_5 rfl rfl) ?_
    refine Eq.trans (jr_s (pc2 := 7) (lv2 := [(3, .long 0), (0, .ref 117), (1, .int 3), (2, .int a2)]) (st2 := [.long 0]) jF_266_6 rfl rfl) ?_
    refine Eq.trans (jr_s (pc2 := 8) (lv2 := [(3, .long 0), (0, .ref 117), (1, .int 3), (2, .int a2)]) (st2 := [.long 0, .long 0]) jF_266_7 rfl rfl) ?_
    refine Eq.trans (jr_s (pc2 := 9) (lv2 := [(3, .long 0), (0, .ref 117), (1, .int 3), (2, .int a2)]) (st2 := [.int 0]) jF_266_8 rfl rfl) ?_
    refine Eq.trans (jr_if1 jF_266_9 (by decide +kernel)) ?_
    refine Eq.trans (jr_s (pc2 := 25) (lv2 := [(3, .long 0), (0, .ref 117), (1, .int 3), (2, .int a2)]) (st2 := [.int (-1)]) jF_266_24 rfl rfl) ?_
    exact jr_ri jF_266_25 rfl
set_option maxHeartbeats 8000000 in
set_option maxRecDepth 100000 in
theorem pm_letter_L25 (a2 : Int32) (hl_a2 : (-2147483648) ≤ a2.toInt) (hh_a2 : a2.toInt ≤ (-1)) : PM 92 266 [.int 4, .int a2] := by
  refine ⟨60000, 60000, (-1), jh2, jh2, ?_, ?_, by decide +kernel⟩
  · refine Eq.trans (jr_s (pc2 := 1) (lv2 := [(0, .ref 9), (1, .int 4), (2, .int a2)]) (st2 := [.ref 9]) jF_92_0 rfl rfl) ?_
    refine Eq.trans (jr_gf (v := .ref 20) jF_92_1 (by decide +kernel)) ?_
    refine Eq.trans (jr_s (pc2 := 5) (lv2 := [(0, .ref 9), (1, .int 4), (2, .int a2)]) (st2 := [.int 4, .ref 20]) jF_92_4 rfl rfl) ?_
    refine Eq.trans (jr_s (pc2 := 6) (lv2 := [(0, .ref 9), (1, .int 4), (2, .int a2)]) (st2 := [.int a2, .int 4, .ref 20]) jF_92_5 rfl rfl) ?_
    refine Eq.trans (jr_cV (a := 20) (as := [.int 4, .int a2]) (rest := []) (v := some (.int (-1))) (hp2 := jh2) (fr2 := 499) (lo2 := 19978) jF_92_6 (by decide +kernel) rfl (show j_cnd 500 20000 499 19978 3 _ _ = true from rfl) ?_) ?_
    · refine Eq.trans (jr_s (pc2 := 1) (lv2 := [(0, .ref 20), (1, .int 4), (2, .int a2)]) (st2 := [.int 4]) jF_93_0 rfl rfl) ?_
      refine Eq.trans (jr_if0 jF_93_1 (by decide +kernel)) ?_
      refine Eq.trans (jr_s (pc2 := 5) (lv2 := [(0, .ref 20), (1, .int 4), (2, .int a2)]) (st2 := [.int 4]) jF_93_4 rfl rfl) ?_
      refine Eq.trans (jr_s (pc2 := 6) (lv2 := [(0, .ref 20), (1, .int 4), (2, .int a2)]) (st2 := [.ref 20, .int 4]) jF_93_5 rfl rfl) ?_
      refine Eq.trans (jr_gf (v := .ref 21) jF_93_6 (by decide +kernel)) ?_
      refine Eq.trans (jr_al (v := 25) jF_93_9 (by decide +kernel)) ?_
      refine Eq.trans (jr_ic0 jF_93_10 (by decide +kernel)) ?_
      refine Eq.trans (jr_s (pc2 := 14) (lv2 := [(0, .ref 20), (1, .int 4), (2, .int a2)]) (st2 := [.int a2]) jF_93_13 rfl rfl) ?_
      refine Eq.trans (jr_if1 jF_93_14 (jk_lt_lt (show (a2 : Int32).toInt < (0 : Int32).toInt by rw [show (0 : Int32).toInt = 0 from by decide]; omega))) ?_
      refine Eq.trans (jr_s (pc2 := 33) (lv2 := [(0, .ref 20), (1, .int 4), (2, .int a2)]) (st2 := [.int (-1)]) jF_93_32 rfl rfl) ?_
      exact jr_ri jF_93_33 rfl
    exact jr_ri jF_92_9 rfl
  · refine Eq.trans (jr_s (pc2 := 1) (lv2 := [(0, .ref 117), (1, .int 4), (2, .int a2)]) (st2 := [.ref 117]) jF_266_0 rfl rfl) ?_
    refine Eq.trans (jr_s (pc2 := 2) (lv2 := [(0, .ref 117), (1, .int 4), (2, .int a2)]) (st2 := [.int 4, .ref 117]) jF_266_1 rfl rfl) ?_
    refine Eq.trans (jr_cV (a := 117) (as := [.int 4]) (rest := []) (v := some (.long 0)) (hp2 := jh2) (fr2 := 499) (lo2 := 19979) jF_266_2 (by decide +kernel) rfl (show j_cnd 500 20000 499 19979 2 _ _ = true from rfl) ?_) ?_
    · refine Eq.trans (jr_s (pc2 := 1) (lv2 := [(0, .ref 117), (1, .int 4)]) (st2 := [.int 4]) jF_267_0 rfl rfl) ?_
      refine Eq.trans (jr_s (pc2 := 2) (lv2 := [(0, .ref 117), (1, .int 4)]) (st2 := [.long 4]) jF_267_1 rfl rfl) ?_
      refine Eq.trans (jr_s (pc2 := 3) (lv2 := [(0, .ref 117), (1, .int 4)]) (st2 := [.long 0, .long 4]) jF_267_2 rfl rfl) ?_
      refine Eq.trans (jr_s (pc2 := 6) (lv2 := [(0, .ref 117), (1, .int 4)]) (st2 := [.long 17, .long 0, .long 4]) jF_267_3 rfl rfl) ?_
      refine Eq.trans (jr_cS (as := [.long 4, .long 0, .long 17]) (rest := []) (v := some (.int 1)) (hp2 := jh2) (fr2 := 498) (lo2 := 19954) jF_267_6 rfl (show j_cnd 499 19979 498 19954 6 _ _ = true from rfl) ?_) ?_
      · refine Eq.trans (jr_s (pc2 := 1) (lv2 := [(0, .long 4), (2, .long 0), (4, .long 17)]) (st2 := [.long 4]) jF_232_0 rfl rfl) ?_
        refine Eq.trans (jr_s (pc2 := 2) (lv2 := [(0, .long 4), (2, .long 0), (4, .long 17)]) (st2 := [.long 0, .long 4]) jF_232_1 rfl rfl) ?_
        refine Eq.trans (jr_s (pc2 := 3) (lv2 := [(0, .long 4), (2, .long 0), (4, .long 17)]) (st2 := [.int 1]) jF_232_2 rfl rfl) ?_
        refine Eq.trans (jr_if0 jF_232_3 (by decide +kernel)) ?_
        refine Eq.trans (jr_s (pc2 := 7) (lv2 := [(0, .long 4), (2, .long 0), (4, .long 17)]) (st2 := [.long 4]) jF_232_6 rfl rfl) ?_
        refine Eq.trans (jr_s (pc2 := 9) (lv2 := [(0, .long 4), (2, .long 0), (4, .long 17)]) (st2 := [.long 17, .long 4]) jF_232_7 rfl rfl) ?_
        refine Eq.trans (jr_s (pc2 := 10) (lv2 := [(0, .long 4), (2, .long 0), (4, .long 17)]) (st2 := [.int (-1)]) jF_232_9 rfl rfl) ?_
        refine Eq.trans (jr_if0 jF_232_10 (by decide +kernel)) ?_
        refine Eq.trans (jr_s (pc2 := 14) (lv2 := [(0, .long 4), (2, .long 0), (4, .long 17)]) (st2 := [.int 1]) jF_232_13 rfl rfl) ?_
        refine Eq.trans (jr_s (pc2 := 18) (lv2 := [(0, .long 4), (2, .long 0), (4, .long 17)]) (st2 := [.int 1]) jF_232_14 rfl rfl) ?_
        exact jr_ri jF_232_18 rfl
      refine Eq.trans (jr_if0 jF_267_9 (by decide +kernel)) ?_
      refine Eq.trans (jr_s (pc2 := 13) (lv2 := [(0, .ref 117), (1, .int 4)]) (st2 := [.ref 117]) jF_267_12 rfl rfl) ?_
      refine Eq.trans (jr_gf (v := .ref 138) jF_267_13 (by decide +kernel)) ?_
      refine Eq.trans (jr_s (pc2 := 18) (lv2 := [(0, .ref 117), (1, .int 4)]) (st2 := [.int 18, .ref 138]) jF_267_16 rfl rfl) ?_
      refine Eq.trans (jr_s (pc2 := 19) (lv2 := [(0, .ref 117), (1, .int 4)]) (st2 := [.int 4, .int 18, .ref 138]) jF_267_18 rfl rfl) ?_
      refine Eq.trans (jr_s (pc2 := 20) (lv2 := [(0, .ref 117), (1, .int 4)]) (st2 := [.int 22, .ref 138]) jF_267_19 rfl rfl) ?_
      refine Eq.trans (jr_ldl (v := .long 0) jF_267_20 (by decide +kernel)) ?_
      exact jr_rl jF_267_21
    refine Eq.trans (jr_s (pc2 := 6) (lv2 := [(3, .long 0), (0, .ref 117), (1, .int 4), (2, .int a2)]) (st2 := []) jF_266_5 rfl rfl) ?_
    refine Eq.trans (jr_s (pc2 := 7) (lv2 := [(3, .long 0), (0, .ref 117), (1, .int 4), (2, .int a2)]) (st2 := [.long 0]) jF_266_6 rfl rfl) ?_
    refine Eq.trans (jr_s (pc2 := 8) (lv2 := [(3, .long 0), (0, .ref 117), (1, .int 4), (2, .int a2)]) (st2 := [.long 0, .long 0]) jF_266_7 rfl rfl) ?_
    refine Eq.trans (jr_s (pc2 := 9) (lv2 := [(3, .long 0), (0, .ref 117), (1, .int 4), (2, .int a2)]) (st2 := [.int 0]) jF_266_8 rfl rfl) ?_
    refine Eq.trans (jr_if1 jF_266_9 (by decide +kernel)) ?_
    refine Eq.trans (jr_s (pc2 := 25) (lv2 := [(3, .long 0), (0, .ref 117), (1, .int 4), (2, .int a2)]) (st2 := [.int (-1)]) jF_266_24 rfl rfl) ?_
    exact jr_ri jF_266_25 rfl
set_option maxHeartbeats 8000000 in
set_option maxRecDepth 100000 in
theorem pm_letter_L26 (a2 : Int32) (hl_a2 : (-2147483648) ≤ a2.toInt) (hh_a2 : a2.toInt ≤ (-1)) : PM 92 266 [.int 5, .int a2] := by
  refine ⟨60000, 60000, (-1), jh2, jh2, ?_, ?_, by decide +kernel⟩
  · refine Eq.trans (jr_s (pc2 := 1) (lv2 := [(0, .ref 9), (1, .int 5), (2, .int a2)]) (st2 := [.ref 9]) jF_92_0 rfl rfl) ?_
    refine Eq.trans (jr_gf (v := .ref 20) jF_92_1 (by decide +kernel)) ?_
    refine Eq.trans (jr_s (pc2 := 5) (lv2 := [(0, .ref 9), (1, .int 5), (2, .int a2)]) (st2 := [.int 5, .ref 20]) jF_92_4 rfl rfl) ?_
    refine Eq.trans (jr_s (pc2 := 6) (lv2 := [(0, .ref 9), (1, .int 5), (2, .int a2)]) (st2 := [.int a2, .int 5, .ref 20]) jF_92_5 rfl rfl) ?_
    refine Eq.trans (jr_cV (a := 20) (as := [.int 5, .int a2]) (rest := []) (v := some (.int (-1))) (hp2 := jh2) (fr2 := 499) (lo2 := 19978) jF_92_6 (by decide +kernel) rfl (show j_cnd 500 20000 499 19978 3 _ _ = true from rfl) ?_) ?_
    · refine Eq.trans (jr_s (pc2 := 1) (lv2 := [(0, .ref 20), (1, .int 5), (2, .int a2)]) (st2 := [.int 5]) jF_93_0 rfl rfl) ?_
      refine Eq.trans (jr_if0 jF_93_1 (by decide +kernel)) ?_
      refine Eq.trans (jr_s (pc2 := 5) (lv2 := [(0, .ref 20), (1, .int 5), (2, .int a2)]) (st2 := [.int 5]) jF_93_4 rfl rfl) ?_
      refine Eq.trans (jr_s (pc2 := 6) (lv2 := [(0, .ref 20), (1, .int 5), (2, .int a2)]) (st2 := [.ref 20, .int 5]) jF_93_5 rfl rfl) ?_
      refine Eq.trans (jr_gf (v := .ref 21) jF_93_6 (by decide +kernel)) ?_
      refine Eq.trans (jr_al (v := 25) jF_93_9 (by decide +kernel)) ?_
      refine Eq.trans (jr_ic0 jF_93_10 (by decide +kernel)) ?_
      refine Eq.trans (jr_s (pc2 := 14) (lv2 := [(0, .ref 20), (1, .int 5), (2, .int a2)]) (st2 := [.int a2]) jF_93_13 rfl rfl) ?_
      refine Eq.trans (jr_if1 jF_93_14 (jk_lt_lt (show (a2 : Int32).toInt < (0 : Int32).toInt by rw [show (0 : Int32).toInt = 0 from by decide]; omega))) ?_
      refine Eq.trans (jr_s (pc2 := 33) (lv2 := [(0, .ref 20), (1, .int 5), (2, .int a2)]) (st2 := [.int (-1)]) jF_93_32 rfl rfl) ?_
      exact jr_ri jF_93_33 rfl
    exact jr_ri jF_92_9 rfl
  · refine Eq.trans (jr_s (pc2 := 1) (lv2 := [(0, .ref 117), (1, .int 5), (2, .int a2)]) (st2 := [.ref 117]) jF_266_0 rfl rfl) ?_
    refine Eq.trans (jr_s (pc2 := 2) (lv2 := [(0, .ref 117), (1, .int 5), (2, .int a2)]) (st2 := [.int 5, .ref 117]) jF_266_1 rfl rfl) ?_
    refine Eq.trans (jr_cV (a := 117) (as := [.int 5]) (rest := []) (v := some (.long 0)) (hp2 := jh2) (fr2 := 499) (lo2 := 19979) jF_266_2 (by decide +kernel) rfl (show j_cnd 500 20000 499 19979 2 _ _ = true from rfl) ?_) ?_
    · refine Eq.trans (jr_s (pc2 := 1) (lv2 := [(0, .ref 117), (1, .int 5)]) (st2 := [.int 5]) jF_267_0 rfl rfl) ?_
      refine Eq.trans (jr_s (pc2 := 2) (lv2 := [(0, .ref 117), (1, .int 5)]) (st2 := [.long 5]) jF_267_1 rfl rfl) ?_
      refine Eq.trans (jr_s (pc2 := 3) (lv2 := [(0, .ref 117), (1, .int 5)]) (st2 := [.long 0, .long 5]) jF_267_2 rfl rfl) ?_
      refine Eq.trans (jr_s (pc2 := 6) (lv2 := [(0, .ref 117), (1, .int 5)]) (st2 := [.long 17, .long 0, .long 5]) jF_267_3 rfl rfl) ?_
      refine Eq.trans (jr_cS (as := [.long 5, .long 0, .long 17]) (rest := []) (v := some (.int 1)) (hp2 := jh2) (fr2 := 498) (lo2 := 19954) jF_267_6 rfl (show j_cnd 499 19979 498 19954 6 _ _ = true from rfl) ?_) ?_
      · refine Eq.trans (jr_s (pc2 := 1) (lv2 := [(0, .long 5), (2, .long 0), (4, .long 17)]) (st2 := [.long 5]) jF_232_0 rfl rfl) ?_
        refine Eq.trans (jr_s (pc2 := 2) (lv2 := [(0, .long 5), (2, .long 0), (4, .long 17)]) (st2 := [.long 0, .long 5]) jF_232_1 rfl rfl) ?_
        refine Eq.trans (jr_s (pc2 := 3) (lv2 := [(0, .long 5), (2, .long 0), (4, .long 17)]) (st2 := [.int 1]) jF_232_2 rfl rfl) ?_
        refine Eq.trans (jr_if0 jF_232_3 (by decide +kernel)) ?_
        refine Eq.trans (jr_s (pc2 := 7) (lv2 := [(0, .long 5), (2, .long 0), (4, .long 17)]) (st2 := [.long 5]) jF_232_6 rfl rfl) ?_
        refine Eq.trans (jr_s (pc2 := 9) (lv2 := [(0, .long 5), (2, .long 0), (4, .long 17)]) (st2 := [.long 17, .long 5]) jF_232_7 rfl rfl) ?_
        refine Eq.trans (jr_s (pc2 := 10) (lv2 := [(0, .long 5), (2, .long 0), (4, .long 17)]) (st2 := [.int (-1)]) jF_232_9 rfl rfl) ?_
        refine Eq.trans (jr_if0 jF_232_10 (by decide +kernel)) ?_
        refine Eq.trans (jr_s (pc2 := 14) (lv2 := [(0, .long 5), (2, .long 0), (4, .long 17)]) (st2 := [.int 1]) jF_232_13 rfl rfl) ?_
        refine Eq.trans (jr_s (pc2 := 18) (lv2 := [(0, .long 5), (2, .long 0), (4, .long 17)]) (st2 := [.int 1]) jF_232_14 rfl rfl) ?_
        exact jr_ri jF_232_18 rfl
      refine Eq.trans (jr_if0 jF_267_9 (by decide +kernel)) ?_
      refine Eq.trans (jr_s (pc2 := 13) (lv2 := [(0, .ref 117), (1, .int 5)]) (st2 := [.ref 117]) jF_267_12 rfl rfl) ?_
      refine Eq.trans (jr_gf (v := .ref 138) jF_267_13 (by decide +kernel)) ?_
      refine Eq.trans (jr_s (pc2 := 18) (lv2 := [(0, .ref 117), (1, .int 5)]) (st2 := [.int 18, .ref 138]) jF_267_16 rfl rfl) ?_
      refine Eq.trans (jr_s (pc2 := 19) (lv2 := [(0, .ref 117), (1, .int 5)]) (st2 := [.int 5, .int 18, .ref 138]) jF_267_18 rfl rfl) ?_
      refine Eq.trans (jr_s (pc2 := 20) (lv2 := [(0, .ref 117), (1, .int 5)]) (st2 := [.int 23, .ref 138]) jF_267_19 rfl rfl) ?_
      refine Eq.trans (jr_ldl (v := .long 0) jF_267_20 (by decide +kernel)) ?_
      exact jr_rl jF_267_21
    refine Eq.trans (jr_s (pc2 := 6) (lv2 := [(3, .long 0), (0, .ref 117), (1, .int 5), (2, .int a2)]) (st2 := []) jF_266_5 rfl rfl) ?_
    refine Eq.trans (jr_s (pc2 := 7) (lv2 := [(3, .long 0), (0, .ref 117), (1, .int 5), (2, .int a2)]) (st2 := [.long 0]) jF_266_6 rfl rfl) ?_
    refine Eq.trans (jr_s (pc2 := 8) (lv2 := [(3, .long 0), (0, .ref 117), (1, .int 5), (2, .int a2)]) (st2 := [.long 0, .long 0]) jF_266_7 rfl rfl) ?_
    refine Eq.trans (jr_s (pc2 := 9) (lv2 := [(3, .long 0), (0, .ref 117), (1, .int 5), (2, .int a2)]) (st2 := [.int 0]) jF_266_8 rfl rfl) ?_
    refine Eq.trans (jr_if1 jF_266_9 (by decide +kernel)) ?_
    refine Eq.trans (jr_s (pc2 := 25) (lv2 := [(3, .long 0), (0, .ref 117), (1, .int 5), (2, .int a2)]) (st2 := [.int (-1)]) jF_266_24 rfl rfl) ?_
    exact jr_ri jF_266_25 rfl
set_option maxHeartbeats 8000000 in
set_option maxRecDepth 100000 in
theorem pm_letter_L27 (a2 : Int32) (hl_a2 : (-2147483648) ≤ a2.toInt) (hh_a2 : a2.toInt ≤ (-1)) : PM 92 266 [.int 6, .int a2] := by
  refine ⟨60000, 60000, (-1), jh2, jh2, ?_, ?_, by decide +kernel⟩
  · refine Eq.trans (jr_s (pc2 := 1) (lv2 := [(0, .ref 9), (1, .int 6), (2, .int a2)]) (st2 := [.ref 9]) jF_92_0 rfl rfl) ?_
    refine Eq.trans (jr_gf (v := .ref 20) jF_92_1 (by decide +kernel)) ?_
    refine Eq.trans (jr_s (pc2 := 5) (lv2 := [(0, .ref 9), (1, .int 6), (2, .int a2)]) (st2 := [.int 6, .ref 20]) jF_92_4 rfl rfl) ?_
    refine Eq.trans (jr_s (pc2 := 6) (lv2 := [(0, .ref 9), (1, .int 6), (2, .int a2)]) (st2 := [.int a2, .int 6, .ref 20]) jF_92_5 rfl rfl) ?_
    refine Eq.trans (jr_cV (a := 20) (as := [.int 6, .int a2]) (rest := []) (v := some (.int (-1))) (hp2 := jh2) (fr2 := 499) (lo2 := 19978) jF_92_6 (by decide +kernel) rfl (show j_cnd 500 20000 499 19978 3 _ _ = true from rfl) ?_) ?_
    · refine Eq.trans (jr_s (pc2 := 1) (lv2 := [(0, .ref 20), (1, .int 6), (2, .int a2)]) (st2 := [.int 6]) jF_93_0 rfl rfl) ?_
      refine Eq.trans (jr_if0 jF_93_1 (by decide +kernel)) ?_
      refine Eq.trans (jr_s (pc2 := 5) (lv2 := [(0, .ref 20), (1, .int 6), (2, .int a2)]) (st2 := [.int 6]) jF_93_4 rfl rfl) ?_
      refine Eq.trans (jr_s (pc2 := 6) (lv2 := [(0, .ref 20), (1, .int 6), (2, .int a2)]) (st2 := [.ref 20, .int 6]) jF_93_5 rfl rfl) ?_
      refine Eq.trans (jr_gf (v := .ref 21) jF_93_6 (by decide +kernel)) ?_
      refine Eq.trans (jr_al (v := 25) jF_93_9 (by decide +kernel)) ?_
      refine Eq.trans (jr_ic0 jF_93_10 (by decide +kernel)) ?_
      refine Eq.trans (jr_s (pc2 := 14) (lv2 := [(0, .ref 20), (1, .int 6), (2, .int a2)]) (st2 := [.int a2]) jF_93_13 rfl rfl) ?_
      refine Eq.trans (jr_if1 jF_93_14 (jk_lt_lt (show (a2 : Int32).toInt < (0 : Int32).toInt by rw [show (0 : Int32).toInt = 0 from by decide]; omega))) ?_
      refine Eq.trans (jr_s (pc2 := 33) (lv2 := [(0, .ref 20), (1, .int 6), (2, .int a2)]) (st2 := [.int (-1)]) jF_93_32 rfl rfl) ?_
      exact jr_ri jF_93_33 rfl
    exact jr_ri jF_92_9 rfl
  · refine Eq.trans (jr_s (pc2 := 1) (lv2 := [(0, .ref 117), (1, .int 6), (2, .int a2)]) (st2 := [.ref 117]) jF_266_0 rfl rfl) ?_
    refine Eq.trans (jr_s (pc2 := 2) (lv2 := [(0, .ref 117), (1, .int 6), (2, .int a2)]) (st2 := [.int 6, .ref 117]) jF_266_1 rfl rfl) ?_
    refine Eq.trans (jr_cV (a := 117) (as := [.int 6]) (rest := []) (v := some (.long 0)) (hp2 := jh2) (fr2 := 499) (lo2 := 19979) jF_266_2 (by decide +kernel) rfl (show j_cnd 500 20000 499 19979 2 _ _ = true from rfl) ?_) ?_
    · refine Eq.trans (jr_s (pc2 := 1) (lv2 := [(0, .ref 117), (1, .int 6)]) (st2 := [.int 6]) jF_267_0 rfl rfl) ?_
      refine Eq.trans (jr_s (pc2 := 2) (lv2 := [(0, .ref 117), (1, .int 6)]) (st2 := [.long 6]) jF_267_1 rfl rfl) ?_
      refine Eq.trans (jr_s (pc2 := 3) (lv2 := [(0, .ref 117), (1, .int 6)]) (st2 := [.long 0, .long 6]) jF_267_2 rfl rfl) ?_
      refine Eq.trans (jr_s (pc2 := 6) (lv2 := [(0, .ref 117), (1, .int 6)]) (st2 := [.long 17, .long 0, .long 6]) jF_267_3 rfl rfl) ?_
      refine Eq.trans (jr_cS (as := [.long 6, .long 0, .long 17]) (rest := []) (v := some (.int 1)) (hp2 := jh2) (fr2 := 498) (lo2 := 19954) jF_267_6 rfl (show j_cnd 499 19979 498 19954 6 _ _ = true from rfl) ?_) ?_
      · refine Eq.trans (jr_s (pc2 := 1) (lv2 := [(0, .long 6), (2, .long 0), (4, .long 17)]) (st2 := [.long 6]) jF_232_0 rfl rfl) ?_
        refine Eq.trans (jr_s (pc2 := 2) (lv2 := [(0, .long 6), (2, .long 0), (4, .long 17)]) (st2 := [.long 0, .long 6]) jF_232_1 rfl rfl) ?_
        refine Eq.trans (jr_s (pc2 := 3) (lv2 := [(0, .long 6), (2, .long 0), (4, .long 17)]) (st2 := [.int 1]) jF_232_2 rfl rfl) ?_
        refine Eq.trans (jr_if0 jF_232_3 (by decide +kernel)) ?_
        refine Eq.trans (jr_s (pc2 := 7) (lv2 := [(0, .long 6), (2, .long 0), (4, .long 17)]) (st2 := [.long 6]) jF_232_6 rfl rfl) ?_
        refine Eq.trans (jr_s (pc2 := 9) (lv2 := [(0, .long 6), (2, .long 0), (4, .long 17)]) (st2 := [.long 17, .long 6]) jF_232_7 rfl rfl) ?_
        refine Eq.trans (jr_s (pc2 := 10) (lv2 := [(0, .long 6), (2, .long 0), (4, .long 17)]) (st2 := [.int (-1)]) jF_232_9 rfl rfl) ?_
        refine Eq.trans (jr_if0 jF_232_10 (by decide +kernel)) ?_
        refine Eq.trans (jr_s (pc2 := 14) (lv2 := [(0, .long 6), (2, .long 0), (4, .long 17)]) (st2 := [.int 1]) jF_232_13 rfl rfl) ?_
        refine Eq.trans (jr_s (pc2 := 18) (lv2 := [(0, .long 6), (2, .long 0), (4, .long 17)]) (st2 := [.int 1]) jF_232_14 rfl rfl) ?_
        exact jr_ri jF_232_18 rfl
      refine Eq.trans (jr_if0 jF_267_9 (by decide +kernel)) ?_
      refine Eq.trans (jr_s (pc2 := 13) (lv2 := [(0, .ref 117), (1, .int 6)]) (st2 := [.ref 117]) jF_267_12 rfl rfl) ?_
      refine Eq.trans (jr_gf (v := .ref 138) jF_267_13 (by decide +kernel)) ?_
      refine Eq.trans (jr_s (pc2 := 18) (lv2 := [(0, .ref 117), (1, .int 6)]) (st2 := [.int 18, .ref 138]) jF_267_16 rfl rfl) ?_
      refine Eq.trans (jr_s (pc2 := 19) (lv2 := [(0, .ref 117), (1, .int 6)]) (st2 := [.int 6, .int 18, .ref 138]) jF_267_18 rfl rfl) ?_
      refine Eq.trans (jr_s (pc2 := 20) (lv2 := [(0, .ref 117), (1, .int 6)]) (st2 := [.int 24, .ref 138]) jF_267_19 rfl rfl) ?_
      refine Eq.trans (jr_ldl (v := .long 0) jF_267_20 (by decide +kernel)) ?_
      exact jr_rl jF_267_21
    refine Eq.trans (jr_s (pc2 := 6) (lv2 := [(3, .long 0), (0, .ref 117), (1, .int 6), (2, .int a2)]) (st2 := []) jF_266_5 rfl rfl) ?_
    refine Eq.trans (jr_s (pc2 := 7) (lv2 := [(3, .long 0), (0, .ref 117), (1, .int 6), (2, .int a2)]) (st2 := [.long 0]) jF_266_6 rfl rfl) ?_
    refine Eq.trans (jr_s (pc2 := 8) (lv2 := [(3, .long 0), (0, .ref 117), (1, .int 6), (2, .int a2)]) (st2 := [.long 0, .long 0]) jF_266_7 rfl rfl) ?_
    refine Eq.trans (jr_s (pc2 := 9) (lv2 := [(3, .long 0), (0, .ref 117), (1, .int 6), (2, .int a2)]) (st2 := [.int 0]) jF_266_8 rfl rfl) ?_
    refine Eq.trans (jr_if1 jF_266_9 (by decide +kernel)) ?_
    refine Eq.trans (jr_s (pc2 := 25) (lv2 := [(3, .long 0), (0, .ref 117), (1, .int 6), (2, .int a2)]) (st2 := [.int (-1)]) jF_266_24 rfl rfl) ?_
    exact jr_ri jF_266_25 rfl
set_option maxHeartbeats 8000000 in
set_option maxRecDepth 100000 in
theorem pm_letter_L28 (a2 : Int32) (hl_a2 : (-2147483648) ≤ a2.toInt) (hh_a2 : a2.toInt ≤ (-1)) : PM 92 266 [.int 7, .int a2] := by
  refine ⟨60000, 60000, (-1), jh2, jh2, ?_, ?_, by decide +kernel⟩
  · refine Eq.trans (jr_s (pc2 := 1) (lv2 := [(0, .ref 9), (1, .int 7), (2, .int a2)]) (st2 := [.ref 9]) jF_92_0 rfl rfl) ?_
    refine Eq.trans (jr_gf (v := .ref 20) jF_92_1 (by decide +kernel)) ?_
    refine Eq.trans (jr_s (pc2 := 5) (lv2 := [(0, .ref 9), (1, .int 7), (2, .int a2)]) (st2 := [.int 7, .ref 20]) jF_92_4 rfl rfl) ?_
    refine Eq.trans (jr_s (pc2 := 6) (lv2 := [(0, .ref 9), (1, .int 7), (2, .int a2)]) (st2 := [.int a2, .int 7, .ref 20]) jF_92_5 rfl rfl) ?_
    refine Eq.trans (jr_cV (a := 20) (as := [.int 7, .int a2]) (rest := []) (v := some (.int (-1))) (hp2 := jh2) (fr2 := 499) (lo2 := 19978) jF_92_6 (by decide +kernel) rfl (show j_cnd 500 20000 499 19978 3 _ _ = true from rfl) ?_) ?_
    · refine Eq.trans (jr_s (pc2 := 1) (lv2 := [(0, .ref 20), (1, .int 7), (2, .int a2)]) (st2 := [.int 7]) jF_93_0 rfl rfl) ?_
      refine Eq.trans (jr_if0 jF_93_1 (by decide +kernel)) ?_
      refine Eq.trans (jr_s (pc2 := 5) (lv2 := [(0, .ref 20), (1, .int 7), (2, .int a2)]) (st2 := [.int 7]) jF_93_4 rfl rfl) ?_
      refine Eq.trans (jr_s (pc2 := 6) (lv2 := [(0, .ref 20), (1, .int 7), (2, .int a2)]) (st2 := [.ref 20, .int 7]) jF_93_5 rfl rfl) ?_
      refine Eq.trans (jr_gf (v := .ref 21) jF_93_6 (by decide +kernel)) ?_
      refine Eq.trans (jr_al (v := 25) jF_93_9 (by decide +kernel)) ?_
      refine Eq.trans (jr_ic0 jF_93_10 (by decide +kernel)) ?_
      refine Eq.trans (jr_s (pc2 := 14) (lv2 := [(0, .ref 20), (1, .int 7), (2, .int a2)]) (st2 := [.int a2]) jF_93_13 rfl rfl) ?_
      refine Eq.trans (jr_if1 jF_93_14 (jk_lt_lt (show (a2 : Int32).toInt < (0 : Int32).toInt by rw [show (0 : Int32).toInt = 0 from by decide]; omega))) ?_
      refine Eq.trans (jr_s (pc2 := 33) (lv2 := [(0, .ref 20), (1, .int 7), (2, .int a2)]) (st2 := [.int (-1)]) jF_93_32 rfl rfl) ?_
      exact jr_ri jF_93_33 rfl
    exact jr_ri jF_92_9 rfl
  · refine Eq.trans (jr_s (pc2 := 1) (lv2 := [(0, .ref 117), (1, .int 7), (2, .int a2)]) (st2 := [.ref 117]) jF_266_0 rfl rfl) ?_
    refine Eq.trans (jr_s (pc2 := 2) (lv2 := [(0, .ref 117), (1, .int 7), (2, .int a2)]) (st2 := [.int 7, .ref 117]) jF_266_1 rfl rfl) ?_
    refine Eq.trans (jr_cV (a := 117) (as := [.int 7]) (rest := []) (v := some (.long 0)) (hp2 := jh2) (fr2 := 499) (lo2 := 19979) jF_266_2 (by decide +kernel) rfl (show j_cnd 500 20000 499 19979 2 _ _ = true from rfl) ?_) ?_
    · refine Eq.trans (jr_s (pc2 := 1) (lv2 := [(0, .ref 117), (1, .int 7)]) (st2 := [.int 7]) jF_267_0 rfl rfl) ?_
      refine Eq.trans (jr_s (pc2 := 2) (lv2 := [(0, .ref 117), (1, .int 7)]) (st2 := [.long 7]) jF_267_1 rfl rfl) ?_
      refine Eq.trans (jr_s (pc2 := 3) (lv2 := [(0, .ref 117), (1, .int 7)]) (st2 := [.long 0, .long 7]) jF_267_2 rfl rfl) ?_
      refine Eq.trans (jr_s (pc2 := 6) (lv2 := [(0, .ref 117), (1, .int 7)]) (st2 := [.long 17, .long 0, .long 7]) jF_267_3 rfl rfl) ?_
      refine Eq.trans (jr_cS (as := [.long 7, .long 0, .long 17]) (rest := []) (v := some (.int 1)) (hp2 := jh2) (fr2 := 498) (lo2 := 19954) jF_267_6 rfl (show j_cnd 499 19979 498 19954 6 _ _ = true from rfl) ?_) ?_
      · refine Eq.trans (jr_s (pc2 := 1) (lv2 := [(0, .long 7), (2, .long 0), (4, .long 17)]) (st2 := [.long 7]) jF_232_0 rfl rfl) ?_
        refine Eq.trans (jr_s (pc2 := 2) (lv2 := [(0, .long 7), (2, .long 0), (4, .long 17)]) (st2 := [.long 0, .long 7]) jF_232_1 rfl rfl) ?_
        refine Eq.trans (jr_s (pc2 := 3) (lv2 := [(0, .long 7), (2, .long 0), (4, .long 17)]) (st2 := [.int 1]) jF_232_2 rfl rfl) ?_
        refine Eq.trans (jr_if0 jF_232_3 (by decide +kernel)) ?_
        refine Eq.trans (jr_s (pc2 := 7) (lv2 := [(0, .long 7), (2, .long 0), (4, .long 17)]) (st2 := [.long 7]) jF_232_6 rfl rfl) ?_
        refine Eq.trans (jr_s (pc2 := 9) (lv2 := [(0, .long 7), (2, .long 0), (4, .long 17)]) (st2 := [.long 17, .long 7]) jF_232_7 rfl rfl) ?_
        refine Eq.trans (jr_s (pc2 := 10) (lv2 := [(0, .long 7), (2, .long 0), (4, .long 17)]) (st2 := [.int (-1)]) jF_232_9 rfl rfl) ?_
        refine Eq.trans (jr_if0 jF_232_10 (by decide +kernel)) ?_
        refine Eq.trans (jr_s (pc2 := 14) (lv2 := [(0, .long 7), (2, .long 0), (4, .long 17)]) (st2 := [.int 1]) jF_232_13 rfl rfl) ?_
        refine Eq.trans (jr_s (pc2 := 18) (lv2 := [(0, .long 7), (2, .long 0), (4, .long 17)]) (st2 := [.int 1]) jF_232_14 rfl rfl) ?_
        exact jr_ri jF_232_18 rfl
      refine Eq.trans (jr_if0 jF_267_9 (by decide +kernel)) ?_
      refine Eq.trans (jr_s (pc2 := 13) (lv2 := [(0, .ref 117), (1, .int 7)]) (st2 := [.ref 117]) jF_267_12 rfl rfl) ?_
      refine Eq.trans (jr_gf (v := .ref 138) jF_267_13 (by decide +kernel)) ?_
      refine Eq.trans (jr_s (pc2 := 18) (lv2 := [(0, .ref 117), (1, .int 7)]) (st2 := [.int 18, .ref 138]) jF_267_16 rfl rfl) ?_
      refine Eq.trans (jr_s (pc2 := 19) (lv2 := [(0, .ref 117), (1, .int 7)]) (st2 := [.int 7, .int 18, .ref 138]) jF_267_18 rfl rfl) ?_
      refine Eq.trans (jr_s (pc2 := 20) (lv2 := [(0, .ref 117), (1, .int 7)]) (st2 := [.int 25, .ref 138]) jF_267_19 rfl rfl) ?_
      refine Eq.trans (jr_ldl (v := .long 0) jF_267_20 (by decide +kernel)) ?_
      exact jr_rl jF_267_21
    refine Eq.trans (jr_s (pc2 := 6) (lv2 := [(3, .long 0), (0, .ref 117), (1, .int 7), (2, .int a2)]) (st2 := []) jF_266_5 rfl rfl) ?_
    refine Eq.trans (jr_s (pc2 := 7) (lv2 := [(3, .long 0), (0, .ref 117), (1, .int 7), (2, .int a2)]) (st2 := [.long 0]) jF_266_6 rfl rfl) ?_
    refine Eq.trans (jr_s (pc2 := 8) (lv2 := [(3, .long 0), (0, .ref 117), (1, .int 7), (2, .int a2)]) (st2 := [.long 0, .long 0]) jF_266_7 rfl rfl) ?_
    refine Eq.trans (jr_s (pc2 := 9) (lv2 := [(3, .long 0), (0, .ref 117), (1, .int 7), (2, .int a2)]) (st2 := [.int 0]) jF_266_8 rfl rfl) ?_
    refine Eq.trans (jr_if1 jF_266_9 (by decide +kernel)) ?_
    refine Eq.trans (jr_s (pc2 := 25) (lv2 := [(3, .long 0), (0, .ref 117), (1, .int 7), (2, .int a2)]) (st2 := [.int (-1)]) jF_266_24 rfl rfl) ?_
    exact jr_ri jF_266_25 rfl
set_option maxHeartbeats 8000000 in
set_option maxRecDepth 100000 in
theorem pm_letter_L29 (a2 : Int32) (hl_a2 : (-2147483648) ≤ a2.toInt) (hh_a2 : a2.toInt ≤ (-1)) : PM 92 266 [.int 8, .int a2] := by
  refine ⟨60000, 60000, (-1), jh2, jh2, ?_, ?_, by decide +kernel⟩
  · refine Eq.trans (jr_s (pc2 := 1) (lv2 := [(0, .ref 9), (1, .int 8), (2, .int a2)]) (st2 := [.ref 9]) jF_92_0 rfl rfl) ?_
    refine Eq.trans (jr_gf (v := .ref 20) jF_92_1 (by decide +kernel)) ?_
    refine Eq.trans (jr_s (pc2 := 5) (lv2 := [(0, .ref 9), (1, .int 8), (2, .int a2)]) (st2 := [.int 8, .ref 20]) jF_92_4 rfl rfl) ?_
    refine Eq.trans (jr_s (pc2 := 6) (lv2 := [(0, .ref 9), (1, .int 8), (2, .int a2)]) (st2 := [.int a2, .int 8, .ref 20]) jF_92_5 rfl rfl) ?_
    refine Eq.trans (jr_cV (a := 20) (as := [.int 8, .int a2]) (rest := []) (v := some (.int (-1))) (hp2 := jh2) (fr2 := 499) (lo2 := 19978) jF_92_6 (by decide +kernel) rfl (show j_cnd 500 20000 499 19978 3 _ _ = true from rfl) ?_) ?_
    · refine Eq.trans (jr_s (pc2 := 1) (lv2 := [(0, .ref 20), (1, .int 8), (2, .int a2)]) (st2 := [.int 8]) jF_93_0 rfl rfl) ?_
      refine Eq.trans (jr_if0 jF_93_1 (by decide +kernel)) ?_
      refine Eq.trans (jr_s (pc2 := 5) (lv2 := [(0, .ref 20), (1, .int 8), (2, .int a2)]) (st2 := [.int 8]) jF_93_4 rfl rfl) ?_
      refine Eq.trans (jr_s (pc2 := 6) (lv2 := [(0, .ref 20), (1, .int 8), (2, .int a2)]) (st2 := [.ref 20, .int 8]) jF_93_5 rfl rfl) ?_
      refine Eq.trans (jr_gf (v := .ref 21) jF_93_6 (by decide +kernel)) ?_
      refine Eq.trans (jr_al (v := 25) jF_93_9 (by decide +kernel)) ?_
      refine Eq.trans (jr_ic0 jF_93_10 (by decide +kernel)) ?_
      refine Eq.trans (jr_s (pc2 := 14) (lv2 := [(0, .ref 20), (1, .int 8), (2, .int a2)]) (st2 := [.int a2]) jF_93_13 rfl rfl) ?_
      refine Eq.trans (jr_if1 jF_93_14 (jk_lt_lt (show (a2 : Int32).toInt < (0 : Int32).toInt by rw [show (0 : Int32).toInt = 0 from by decide]; omega))) ?_
      refine Eq.trans (jr_s (pc2 := 33) (lv2 := [(0, .ref 20), (1, .int 8), (2, .int a2)]) (st2 := [.int (-1)]) jF_93_32 rfl rfl) ?_
      exact jr_ri jF_93_33 rfl
    exact jr_ri jF_92_9 rfl
  · refine Eq.trans (jr_s (pc2 := 1) (lv2 := [(0, .ref 117), (1, .int 8), (2, .int a2)]) (st2 := [.ref 117]) jF_266_0 rfl rfl) ?_
    refine Eq.trans (jr_s (pc2 := 2) (lv2 := [(0, .ref 117), (1, .int 8), (2, .int a2)]) (st2 := [.int 8, .ref 117]) jF_266_1 rfl rfl) ?_
    refine Eq.trans (jr_cV (a := 117) (as := [.int 8]) (rest := []) (v := some (.long 0)) (hp2 := jh2) (fr2 := 499) (lo2 := 19979) jF_266_2 (by decide +kernel) rfl (show j_cnd 500 20000 499 19979 2 _ _ = true from rfl) ?_) ?_
    · refine Eq.trans (jr_s (pc2 := 1) (lv2 := [(0, .ref 117), (1, .int 8)]) (st2 := [.int 8]) jF_267_0 rfl rfl) ?_
      refine Eq.trans (jr_s (pc2 := 2) (lv2 := [(0, .ref 117), (1, .int 8)]) (st2 := [.long 8]) jF_267_1 rfl rfl) ?_
      refine Eq.trans (jr_s (pc2 := 3) (lv2 := [(0, .ref 117), (1, .int 8)]) (st2 := [.long 0, .long 8]) jF_267_2 rfl rfl) ?_
      refine Eq.trans (jr_s (pc2 := 6) (lv2 := [(0, .ref 117), (1, .int 8)]) (st2 := [.long 17, .long 0, .long 8]) jF_267_3 rfl rfl) ?_
      refine Eq.trans (jr_cS (as := [.long 8, .long 0, .long 17]) (rest := []) (v := some (.int 1)) (hp2 := jh2) (fr2 := 498) (lo2 := 19954) jF_267_6 rfl (show j_cnd 499 19979 498 19954 6 _ _ = true from rfl) ?_) ?_
      · refine Eq.trans (jr_s (pc2 := 1) (lv2 := [(0, .long 8), (2, .long 0), (4, .long 17)]) (st2 := [.long 8]) jF_232_0 rfl rfl) ?_
        refine Eq.trans (jr_s (pc2 := 2) (lv2 := [(0, .long 8), (2, .long 0), (4, .long 17)]) (st2 := [.long 0, .long 8]) jF_232_1 rfl rfl) ?_
        refine Eq.trans (jr_s (pc2 := 3) (lv2 := [(0, .long 8), (2, .long 0), (4, .long 17)]) (st2 := [.int 1]) jF_232_2 rfl rfl) ?_
        refine Eq.trans (jr_if0 jF_232_3 (by decide +kernel)) ?_
        refine Eq.trans (jr_s (pc2 := 7) (lv2 := [(0, .long 8), (2, .long 0), (4, .long 17)]) (st2 := [.long 8]) jF_232_6 rfl rfl) ?_
        refine Eq.trans (jr_s (pc2 := 9) (lv2 := [(0, .long 8), (2, .long 0), (4, .long 17)]) (st2 := [.long 17, .long 8]) jF_232_7 rfl rfl) ?_
        refine Eq.trans (jr_s (pc2 := 10) (lv2 := [(0, .long 8), (2, .long 0), (4, .long 17)]) (st2 := [.int (-1)]) jF_232_9 rfl rfl) ?_
        refine Eq.trans (jr_if0 jF_232_10 (by decide +kernel)) ?_
        refine Eq.trans (jr_s (pc2 := 14) (lv2 := [(0, .long 8), (2, .long 0), (4, .long 17)]) (st2 := [.int 1]) jF_232_13 rfl rfl) ?_
        refine Eq.trans (jr_s (pc2 := 18) (lv2 := [(0, .long 8), (2, .long 0), (4, .long 17)]) (st2 := [.int 1]) jF_232_14 rfl rfl) ?_
        exact jr_ri jF_232_18 rfl
      refine Eq.trans (jr_if0 jF_267_9 (by decide +kernel)) ?_
      refine Eq.trans (jr_s (pc2 := 13) (lv2 := [(0, .ref 117), (1, .int 8)]) (st2 := [.ref 117]) jF_267_12 rfl rfl) ?_
      refine Eq.trans (jr_gf (v := .ref 138) jF_267_13 (by decide +kernel)) ?_
      refine Eq.trans (jr_s (pc2 := 18) (lv2 := [(0, .ref 117), (1, .int 8)]) (st2 := [.int 18, .ref 138]) jF_267_16 rfl rfl) ?_
      refine Eq.trans (jr_s (pc2 := 19) (lv2 := [(0, .ref 117), (1, .int 8)]) (st2 := [.int 8, .int 18, .ref 138]) jF_267_18 rfl rfl) ?_
      refine Eq.trans (jr_s (pc2 := 20) (lv2 := [(0, .ref 117), (1, .int 8)]) (st2 := [.int 26, .ref 138]) jF_267_19 rfl rfl) ?_
      refine Eq.trans (jr_ldl (v := .long 0) jF_267_20 (by decide +kernel)) ?_
      exact jr_rl jF_267_21
    refine Eq.trans (jr_s (pc2 := 6) (lv2 := [(3, .long 0), (0, .ref 117), (1, .int 8), (2, .int a2)]) (st2 := []) jF_266_5 rfl rfl) ?_
    refine Eq.trans (jr_s (pc2 := 7) (lv2 := [(3, .long 0), (0, .ref 117), (1, .int 8), (2, .int a2)]) (st2 := [.long 0]) jF_266_6 rfl rfl) ?_
    refine Eq.trans (jr_s (pc2 := 8) (lv2 := [(3, .long 0), (0, .ref 117), (1, .int 8), (2, .int a2)]) (st2 := [.long 0, .long 0]) jF_266_7 rfl rfl) ?_
    refine Eq.trans (jr_s (pc2 := 9) (lv2 := [(3, .long 0), (0, .ref 117), (1, .int 8), (2, .int a2)]) (st2 := [.int 0]) jF_266_8 rfl rfl) ?_
    refine Eq.trans (jr_if1 jF_266_9 (by decide +kernel)) ?_
    refine Eq.trans (jr_s (pc2 := 25) (lv2 := [(3, .long 0), (0, .ref 117), (1, .int 8), (2, .int a2)]) (st2 := [.int (-1)]) jF_266_24 rfl rfl) ?_
    exact jr_ri jF_266_25 rfl
