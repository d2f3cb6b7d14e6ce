set_option maxHeartbeats 8000000 in
set_option maxRecDepth 100000 in
theorem pm_letter_L0 (a2 : Int32) (hl_a2 : (-2147483648) ≤ a2.toInt) (hh_a2 : a2.toInt ≤ 2147483647) : PM 92 266 [.int (-2147483648), .int a2] := by
  refine ⟨60000, 60000, (-1), jh2, jh2, ?_, ?_, by decide +kernel⟩
  · refine Eq.trans (jr_s (pc2 := 1) (lv2 := [(0, .ref 9), (1, .int (-2147483648)), (2, .int a2)]) (st2 := [.ref 9]) jF_92_0 rfl rfl) ?_
    refine Eq.trans (jr_gf (v := .ref 20) jF_92_1 (by decide +kernel)) ?_
    refine Eq.trans (jr_s (pc2 := 5) (lv2 := [(0, .ref 9), (1, .int (-2147483648)), (2, .int a2)]) (st2 := [.int (-2147483648), .ref 20]) jF_92_4 rfl rfl) ?_
    refine Eq.trans (jr_s (pc2 := 6) (lv2 := [(0, .ref 9), (1, .int (-2147483648)), (2, .int a2)]) (st2 := [.int a2, .int (-2147483648), .ref 20]) jF_92_5 rfl rfl) ?_
    refine Eq.trans (jr_cV (a := 20) (as := [.int (-2147483648), .int a2]) (rest := []) (v := some (.int (-1))) (hp2 := jh2) (fr2 := 499) (lo2 := 19978) jF_92_6 (by decide +kernel) rfl (show j_cnd 500 20000 499 19978 3 _ _ = true from rfl) ?_) ?_
    · refine Eq.trans (jr_s (pc2 := 1) (lv2 := [(0, .ref 20), (1, .int (-2147483648)), (2, .int a2)]) (st2 := [.int (-2147483648)]) jF_93_0 rfl rfl) ?_
      refine Eq.trans (jr_if1 jF_93_1 (by decide +kernel)) ?_
      refine Eq.trans (jr_s (pc2 := 33) (lv2 := [(0, .ref 20), (1, .int (-2147483648)), (2, .int a2)]) (st2 := [.int (-1)]) jF_93_32 rfl rfl) ?_
      exact jr_ri jF_93_33 rfl
    exact jr_ri jF_92_9 rfl
  · refine Eq.trans (jr_s (pc2 := 1) (lv2 := [(0, .ref 117), (1, .int (-2147483648)), (2, .int a2)]) (st2 := [.ref 117]) jF_266_0 rfl rfl) ?_
    refine Eq.trans (jr_s (pc2 := 2) (lv2 := [(0, .ref 117), (1, .int (-2147483648)), (2, .int a2)]) (st2 := [.int (-2147483648), .ref 117]) jF_266_1 rfl rfl) ?_
    refine Eq.trans (jr_cV (a := 117) (as := [.int (-2147483648)]) (rest := []) (v := some (.long 0)) (hp2 := jh2) (fr2 := 499) (lo2 := 19979) jF_266_2 (by decide +kernel) rfl (show j_cnd 500 20000 499 19979 2 _ _ = true from rfl) ?_) ?_
    · refine Eq.trans (jr_s (pc2 := 1) (lv2 := [(0, .ref 117), (1, .int (-2147483648))]) (st2 := [.int (-2147483648)]) jF_267_0 rfl rfl) ?_
      refine Eq.trans (jr_s (pc2 := 2) (lv2 := [(0, .ref 117), (1, .int (-2147483648))]) (st2 := [.long (-2147483648)]) jF_267_1 rfl rfl) ?_
      refine Eq.trans (jr_s (pc2 := 3) (lv2 := [(0, .ref 117), (1, .int (-2147483648))]) (st2 := [.long 0, .long (-2147483648)]) jF_267_2 rfl rfl) ?_
      refine Eq.trans (jr_s (pc2 := 6) (lv2 := [(0, .ref 117), (1, .int (-2147483648))]) (st2 := [.long 17, .long 0, .long (-2147483648)]) jF_267_3 rfl rfl) ?_
      refine Eq.trans (jr_cS (as := [.long (-2147483648), .long 0, .long 17]) (rest := []) (v := some (.int 0)) (hp2 := jh2) (fr2 := 498) (lo2 := 19954) jF_267_6 rfl (show j_cnd 499 19979 498 19954 6 _ _ = true from rfl) ?_) ?_
      · refine Eq.trans (jr_s (pc2 := 1) (lv2 := [(0, .long (-2147483648)), (2, .long 0), (4, .long 17)]) (st2 := [.long (-2147483648)]) jF_232_0 rfl rfl) ?_
        refine Eq.trans (jr_s (pc2 := 2) (lv2 := [(0, .long (-2147483648)), (2, .long 0), (4, .long 17)]) (st2 := [.long 0, .long (-2147483648)]) jF_232_1 rfl rfl) ?_
        refine Eq.trans (jr_s (pc2 := 3) (lv2 := [(0, .long (-2147483648)), (2, .long 0), (4, .long 17)]) (st2 := [.int (-1)]) jF_232_2 rfl rfl) ?_
        refine Eq.trans (jr_if1 jF_232_3 (by decide +kernel)) ?_
        refine Eq.trans (jr_s (pc2 := 18) (lv2 := [(0, .long (-2147483648)), (2, .long 0), (4, .long 17)]) (st2 := [.int 0]) jF_232_17 rfl rfl) ?_
        exact jr_ri jF_232_18 rfl
      refine Eq.trans (jr_if1 jF_267_9 (by decide +kernel)) ?_
      refine Eq.trans (jr_s (pc2 := 23) (lv2 := [(0, .ref 117), (1, .int (-2147483648))]) (st2 := [.int (-2147483648)]) jF_267_22 rfl rfl) ?_
      refine Eq.trans (jr_s (pc2 := 25) (lv2 := [(0, .ref 117), (1, .int (-2147483648))]) (st2 := [.int 20, .int (-2147483648)]) jF_267_23 rfl rfl) ?_
      refine Eq.trans (jr_s (pc2 := 26) (lv2 := [(0, .ref 117), (1, .int (-2147483648))]) (st2 := [.int 2147483628]) jF_267_25 rfl rfl) ?_
      refine Eq.trans (jr_s (pc2 := 27) (lv2 := [(0, .ref 117), (1, .int (-2147483648))]) (st2 := [.long 2147483628]) jF_267_26 rfl rfl) ?_
      refine Eq.trans (jr_s (pc2 := 28) (lv2 := [(0, .ref 117), (1, .int (-2147483648))]) (st2 := [.long 0, .long 2147483628]) jF_267_27 rfl rfl) ?_
      refine Eq.trans (jr_s (pc2 := 29) (lv2 := [(0, .ref 117), (1, .int (-2147483648))]) (st2 := [.ref 117, .long 0, .long 2147483628]) jF_267_28 rfl rfl) ?_
      refine Eq.trans (jr_gf (v := .int 0) jF_267_29 (by decide +kernel)) ?_
      refine Eq.trans (jr_s (pc2 := 33) (lv2 := [(0, .ref 117), (1, .int (-2147483648))]) (st2 := [.int 1, .int 0, .long 0, .long 2147483628]) jF_267_32 rfl rfl) ?_
      refine Eq.trans (jr_s (pc2 := 34) (lv2 := [(0, .ref 117), (1, .int (-2147483648))]) (st2 := [.int (-1), .long 0, .long 2147483628]) jF_267_33 rfl rfl) ?_
      refine Eq.trans (jr_s (pc2 := 35) (lv2 := [(0, .ref 117), (1, .int (-2147483648))]) (st2 := [.long (-1), .long 0, .long 2147483628]) jF_267_34 rfl rfl) ?_
      refine Eq.trans (jr_cS (as := [.long 2147483628, .long 0, .long (-1)]) (rest := []) (v := some (.int 0)) (hp2 := jh2) (fr2 := 498) (lo2 := 19954) jF_267_35 rfl (show j_cnd 499 19979 498 19954 6 _ _ = true from rfl) ?_) ?_
      · refine Eq.trans (jr_s (pc2 := 1) (lv2 := [(0, .long 2147483628), (2, .long 0), (4, .long (-1))]) (st2 := [.long 2147483628]) jF_232_0 rfl rfl) ?_
        refine Eq.trans (jr_s (pc2 := 2) (lv2 := [(0, .long 2147483628), (2, .long 0), (4, .long (-1))]) (st2 := [.long 0, .long 2147483628]) jF_232_1 rfl rfl) ?_
        refine Eq.trans (jr_s (pc2 := 3) (lv2 := [(0, .long 2147483628), (2, .long 0), (4, .long (-1))]) (st2 := [.int 1]) jF_232_2 rfl rfl) ?_
        refine Eq.trans (jr_if0 jF_232_3 (by decide +kernel)) ?_
        refine Eq.trans (jr_s (pc2 := 7) (lv2 := [(0, .long 2147483628), (2, .long 0), (4, .long (-1))]) (st2 := [.long 2147483628]) jF_232_6 rfl rfl) ?_
        refine Eq.trans (jr_s (pc2 := 9) (lv2 := [(0, .long 2147483628), (2, .long 0), (4, .long (-1))]) (st2 := [.long (-1), .long 2147483628]) jF_232_7 rfl rfl) ?_
        refine Eq.trans (jr_s (pc2 := 10) (lv2 := [(0, .long 2147483628), (2, .long 0), (4, .long (-1))]) (st2 := [.int 1]) jF_232_9 rfl rfl) ?_
        refine Eq.trans (jr_if1 jF_232_10 (by decide +kernel)) ?_
        refine Eq.trans (jr_s (pc2 := 18) (lv2 := [(0, .long 2147483628), (2, .long 0), (4, .long (-1))]) (st2 := [.int 0]) jF_232_17 rfl rfl) ?_
        exact jr_ri jF_232_18 rfl
      refine Eq.trans (jr_if1 jF_267_38 (by decide +kernel)) ?_
      refine Eq.trans (jr_s (pc2 := 56) (lv2 := [(0, .ref 117), (1, .int (-2147483648))]) (st2 := [.long 0]) jF_267_55 rfl rfl) ?_
      exact jr_rl jF_267_56
    refine Eq.trans (jr_s (pc2 := 6) (lv2 := [(3, .long 0), (0, .ref 117), (1, .int (-2147483648)), (2, .int a2)]) (st2 := []) jF_266_5 rfl rfl) ?_
    refine Eq.trans (jr_s (pc2 := 7) (lv2 := [(3, .long 0), (0, .ref 117), (1, .int (-2147483648)), (2, .int a2)]) (st2 := [.long 0]) jF_266_6 rfl rfl) ?_
    refine Eq.trans (jr_s (pc2 := 8) (lv2 := [(3, .long 0), (0, .ref 117), (1, .int (-2147483648)), (2, .int a2)]) (st2 := [.long 0, .long 0]) jF_266_7 rfl rfl) ?_
    refine Eq.trans (jr_s (pc2 := 9) (lv2 := [(3, .long 0), (0, .ref 117), (1, .int (-2147483648)), (2, .int a2)]) (st2 := [.int 0]) jF_266_8 rfl rfl) ?_
    refine Eq.trans (jr_if1 jF_266_9 (by decide +kernel)) ?_
    refine Eq.trans (jr_s (pc2 := 25) (lv2 := [(3, .long 0), (0, .ref 117), (1, .int (-2147483648)), (2, .int a2)]) (st2 := [.int (-1)]) jF_266_24 rfl rfl) ?_
    exact jr_ri jF_266_25 rfl
set_option maxHeartbeats 8000000 in
set_option maxRecDepth 100000 in
theorem pm_letter_L1 (a2 : Int32) (hl_a2 : (-2147483648) ≤ a2.toInt) (hh_a2 : a2.toInt ≤ 2147483647) : PM 92 266 [.int (-2147483647), .int a2] := by
  refine ⟨60000, 60000, (-1), jh2, jh2, ?_, ?_, by decide +kernel⟩
  · refine Eq.trans (jr_s (pc2 := 1) (lv2 := [(0, .ref 9), (1, .int (-2147483647)), (2, .int a2)]) (st2 := [.ref 9]) jF_92_0 rfl rfl) ?_
    refine Eq.trans (jr_gf (v := .ref 20) jF_92_1 (by decide +kernel)) ?_
    refine Eq.trans (jr_s (pc2 := 5) (lv2 := [(0, .ref 9), (1, .int (-2147483647)), (2, .int a2)]) (st2 := [.int (-2147483647), .ref 20]) jF_92_4 rfl rfl) ?_
    refine Eq.trans (jr_s (pc2 := 6) (lv2 := [(0, .ref 9), (1, .int (-2147483647)), (2, .int a2)]) (st2 := [.int a2, .int (-2147483647), .ref 20]) jF_92_5 rfl rfl) ?_
    refine Eq.trans (jr_cV (a := 20) (as := [.int (-2147483647), .int a2]) (rest := []) (v := some (.int (-1))) (hp2 := jh2) (fr2 := 499) (lo2 := 19978) jF_92_6 (by decide +kernel) rfl (show j_cnd 500 20000 499 19978 3 _ _ = true from rfl) ?_) ?_
    · refine Eq.trans (jr_s (pc2 := 1) (lv2 := [(0, .ref 20), (1, .int (-2147483647)), (2, .int a2)]) (st2 := [.int (-2147483647)]) jF_93_0 rfl rfl) ?_
      refine Eq.trans (jr_if1 jF_93_1 (by decide +kernel)) ?_
      refine Eq.trans (jr_s (pc2 := 33) (lv2 := [(0, .ref 20), (1, .int (-2147483647)), (2, .int a2)]) (st2 := [.int (-1)]) jF_93_32 rfl rfl) ?_
      exact jr_ri jF_93_33 rfl
    exact jr_ri jF_92_9 rfl
  · refine Eq.trans (jr_s (pc2 := 1) (lv2 := [(0, .ref 117), (1, .int (-2147483647)), (2, .int a2)]) (st2 := [.ref 117]) jF_266_0 rfl rfl) ?_
    refine Eq.trans (jr_s (pc2 := 2) (lv2 := [(0, .ref 117), (1, .int (-2147483647)), (2, .int a2)]) (st2 := [.int (-2147483647), .ref 117]) jF_266_1 rfl rfl) ?_
    refine Eq.trans (jr_cV (a := 117) (as := [.int (-2147483647)]) (rest := []) (v := some (.long 0)) (hp2 := jh2) (fr2 := 499) (lo2 := 19979) jF_266_2 (by decide +kernel) rfl (show j_cnd 500 20000 499 19979 2 _ _ = true from rfl) ?_) ?_
    · refine Eq.trans (jr_s (pc2 := 1) (lv2 := [(0, .ref 117), (1, .int (-2147483647))]) (st2 := [.int (-2147483647)]) jF_267_0 rfl rfl) ?_
      refine Eq.trans (jr_s (pc2 := 2) (lv2 := [(0, .ref 117), (1, .int (-2147483647))]) (st2 := [.long (-2147483647)]) jF_267_1 rfl rfl) ?_
      refine Eq.trans (jr_s (pc2 := 3) (lv2 := [(0, .ref 117), (1, .int (-2147483647))]) (st2 := [.long 0, .long (-2147483647)]) jF_267_2 rfl rfl) ?_
      refine Eq.trans (jr_s (pc2 := 6) (lv2 := [(0, .ref 117), (1, .int (-2147483647))]) (st2 := [.long 17, .long 0, .long (-2147483647)]) jF_267_3 rfl rfl) ?_
      refine Eq.trans (jr_cS (as := [.long (-2147483647), .long 0, .long 17]) (rest := []) (v := some (.int 0)) (hp2 := jh2) (fr2 := 498) (lo2 := 19954) jF_267_6 rfl (show j_cnd 499 19979 498 19954 6 _ _ = true from rfl) ?_) ?_
      · refine Eq.trans (jr_s (pc2 := 1) (lv2 := [(0, .long (-2147483647)), (2, .long 0), (4, .long 17)]) (st2 := [.long (-2147483647)]) jF_232_0 rfl rfl) ?_
        refine Eq.trans (jr_s (pc2 := 2) (lv2 := [(0, .long (-2147483647)), (2, .long 0), (4, .long 17)]) (st2 := [.long 0, .long (-2147483647)]) jF_232_1 rfl rfl) ?_
        refine Eq.trans (jr_s (pc2 := 3) (lv2 := [(0, .long (-2147483647)), (2, .long 0), (4, .long 17)]) (st2 := [.int (-1)]) jF_232_2 rfl rfl) ?_
        refine Eq.trans (jr_if1 jF_232_3 (by decide +kernel)) ?_
        refine Eq.trans (jr_s (pc2 := 18) (lv2 := [(0, .long (-2147483647)), (2, .long 0), (4, .long 17)]) (st2 := [.int 0]) jF_232_17 rfl rfl) ?_
        exact jr_ri jF_232_18 rfl
      refine Eq.trans (jr_if1 jF_267_9 (by decide +kernel)) ?_
      refine Eq.trans (jr_s (pc2 := 23) (lv2 := [(0, .ref 117), (1, .int (-2147483647))]) (st2 := [.int (-2147483647)]) jF_267_22 rfl rfl) ?_
      refine Eq.trans (jr_s (pc2 := 25) (lv2 := [(0, .ref 117), (1, .int (-2147483647))]) (st2 := [.int 20, .int (-2147483647)]) jF_267_23 rfl rfl) ?_
      refine Eq.trans (jr_s (pc2 := 26) (lv2 := [(0, .ref 117), (1, .int (-2147483647))]) (st2 := [.int 2147483629]) jF_267_25 rfl rfl) ?_
      refine Eq.trans (jr_s (pc2 := 27) (lv2 := [(0, .ref 117), (1, .int (-2147483647))]) (st2 := [.long 2147483629]) jF_267_26 rfl rfl) ?_
      refine Eq.trans (jr_s (pc2 := 28) (lv2 := [(0, .ref 117), (1, .int (-2147483647))]) (st2 := [.long 0, .long 2147483629]) jF_267_27 rfl rfl) ?_
      refine Eq.trans (jr_s (pc2 := 29) (lv2 := [(0, .ref 117), (1, .int (-2147483647))]) (st2 := [.ref 117, .long 0, .long 2147483629]) jF_267_28 rfl rfl) ?_
      refine Eq.trans (jr_gf (v := .int 0) jF_267_29 (by decide +kernel)) ?_
      refine Eq.trans (jr_s (pc2 := 33) (lv2 := [(0, .ref 117), (1, .int (-2147483647))]) (st2 := [.int 1, .int 0, .long 0, .long 2147483629]) jF_267_32 rfl rfl) ?_
      refine Eq.trans (jr_s (pc2 := 34) (lv2 := [(0, .ref 117), (1, .int (-2147483647))]) (st2 := [.int (-1), .long 0, .long 2147483629]) jF_267_33 rfl rfl) ?_
      refine Eq.trans (jr_s (pc2 := 35) (lv2 := [(0, .ref 117), (1, .int (-2147483647))]) (st2 := [.long (-1), .long 0, .long 2147483629]) jF_267_34 rfl rfl) ?_
      refine Eq.trans (jr_cS (as := [.long 2147483629, .long 0, .long (-1)]) (rest := []) (v := some (.int 0)) (hp2 := jh2) (fr2 := 498) (lo2 := 19954) jF_267_35 rfl (show j_cnd 499 19979 498 19954 6 _ _ = true from rfl) ?_) ?_
      · refine Eq.trans (jr_s (pc2 := 1) (lv2 := [(0, .long 2147483629), (2, .long 0), (4, .long (-1))]) (st2 := [.long 2147483629]) jF_232_0 rfl rfl) ?_
        refine Eq.trans (jr_s (pc2 := 2) (lv2 := [(0, .long 2147483629), (2, .long 0), (4, .long (-1))]) (st2 := [.long 0, .long 2147483629]) jF_232_1 rfl rfl) ?_
        refine Eq.trans (jr_s (pc2 := 3) (lv2 := [(0, .long 2147483629), (2, .long 0), (4, .long (-1))]) (st2 := [.int 1]) jF_232_2 rfl rfl) ?_
        refine Eq.trans (jr_if0 jF_232_3 (by decide +kernel)) ?_
        refine Eq.trans (jr_s (pc2 := 7) (lv2 := [(0, .long 2147483629), (2, .long 0), (4, .long (-1))]) (st2 := [.long 2147483629]) jF_232_6 rfl rfl) ?_
        refine Eq.trans (jr_s (pc2 := 9) (lv2 := [(0, .long 2147483629), (2, .long 0), (4, .long (-1))]) (st2 := [.long (-1), .long 2147483629]) jF_232_7 rfl rfl) ?_
        refine Eq.trans (jr_s (pc2 := 10) (lv2 := [(0, .long 2147483629), (2, .long 0), (4, .long (-1))]) (st2 := [.int 1]) jF_232_9 rfl rfl) ?_
        refine Eq.trans (jr_if1 jF_232_10 (by decide +kernel)) ?_
        refine Eq.trans (jr_s (pc2 := 18) (lv2 := [(0, .long 2147483629), (2, .long 0), (4, .long (-1))]) (st2 := [.int 0]) jF_232_17 rfl rfl) ?_
        exact jr_ri jF_232_18 rfl
      refine Eq.trans (jr_if1 jF_267_38 (by decide +kernel)) ?_
      refine Eq.trans (jr_s (pc2 := 56) (lv2 := [(0, .ref 117), (1, .int (-2147483647))]) (st2 := [.long 0]) jF_267_55 rfl rfl) ?_
      exact jr_rl jF_267_56
    refine Eq.trans (jr_s (pc2 := 6) (lv2 := [(3, .long 0), (0, .ref 117), (1, .int (-2147483647)), (2, .int a2)]) (st2 := []) jF_266_5 rfl rfl) ?_
    refine Eq.trans (jr_s (pc2 := 7) (lv2 := [(3, .long 0), (0, .ref 117), (1, .int (-2147483647)), (2, .int a2)]) (st2 := [.long 0]) jF_266_6 rfl rfl) ?_
    refine Eq.trans (jr_s (pc2 := 8) (lv2 := [(3, .long 0), (0, .ref 117), (1, .int (-2147483647)), (2, .int a2)]) (st2 := [.long 0, .long 0]) jF_266_7 rfl rfl) ?_
    refine Eq.trans (jr_s (pc2 := 9) (lv2 := [(3, .long 0), (0, .ref 117), (1, .int (-2147483647)), (2, .int a2)]) (st2 := [.int 0]) jF_266_8 rfl rfl) ?_
    refine Eq.trans (jr_if1 jF_266_9 (by decide +kernel)) ?_
    refine Eq.trans (jr_s (pc2 := 25) (lv2 := [(3, .long 0), (0, .ref 117), (1, .int (-2147483647)), (2, .int a2)]) (st2 := [.int (-1)]) jF_266_24 rfl rfl) ?_
    exact jr_ri jF_266_25 rfl
set_option maxHeartbeats 8000000 in
set_option maxRecDepth 100000 in
theorem pm_letter_L2 (a2 : Int32) (hl_a2 : (-2147483648) ≤ a2.toInt) (hh_a2 : a2.toInt ≤ 2147483647) : PM 92 266 [.int (-2147483646), .int a2] := by
  refine ⟨60000, 60000, (-1), jh2, jh2, ?_, ?_, by decide +kernel⟩
  · refine Eq.trans (jr_s (pc2 := 1) (lv2 := [(0, .ref 9), (1, .int (-2147483646)), (2, .int a2)]) (st2 := [.ref 9]) jF_92_0 rfl rfl) ?_
    refine Eq.trans (jr_gf (v := .ref 20) jF_92_1 (by decide +kernel)) ?_
    refine Eq.trans (jr_s (pc2 := 5) (lv2 := [(0, .ref 9), (1, .int (-2147483646)), (2, .int a2)]) (st2 := [.int (-2147483646), .ref 20]) jF_92_4 rfl rfl) ?_
    refine Eq.trans (jr_s (pc2 := 6) (lv2 := [(0, .ref 9), (1, .int (-2147483646)), (2, .int a2)]) (st2 := [.int a2, .int (-2147483646), .ref 20]) jF_92_5 rfl rfl) ?_
    refine Eq.trans (jr_cV (a := 20) (as := [.int (-2147483646), .int a2]) (rest := []) (v := some (.int (-1))) (hp2 := jh2) (fr2 := 499) (lo2 := 19978) jF_92_6 (by decide +kernel) rfl (show j_cnd 500 20000 499 19978 3 _ _ = true from rfl) ?_) ?_
    · refine Eq.trans (jr_s (pc2 := 1) (lv2 := [(0, .ref 20), (1, .int (-2147483646)), (2, .int a2)]) (st2 := [.int (-2147483646)]) jF_93_0 rfl rfl) ?_
      refine Eq.trans (jr_if1 jF_93_1 (by decide +kernel)) ?_
      refine Eq.trans (jr_s (pc2 := 33) (lv2 := [(0, .ref 20), (1, .int (-2147483646)), (2, .int a2)]) (st2 := [.int (-1)]) jF_93_32 rfl rfl) ?_
      exact jr_ri jF_93_33 rfl
    exact jr_ri jF_92_9 rfl
  · refine Eq.trans (jr_s (pc2 := 1) (lv2 := [(0, .ref 117), (1, .int (-2147483646)), (2, .int a2)]) (st2 := [.ref 117]) jF_266_0 rfl rfl) ?_
    refine Eq.trans (jr_s (pc2 := 2) (lv2 := [(0, .ref 117), (1, .int (-2147483646)), (2, .int a2)]) (st2 := [.int (-2147483646), .ref 117]) jF_266_1 rfl rfl) ?_
    refine Eq.trans (jr_cV (a := 117) (as := [.int (-2147483646)]) (rest := []) (v := some (.long 0)) (hp2 := jh2) (fr2 := 499) (lo2 := 19979) jF_266_2 (by decide +kernel) rfl (show j_cnd 500 20000 499 19979 2 _ _ = true from rfl) ?_) ?_
    · refine Eq.trans (jr_s (pc2 := 1) (lv2 := [(0, .ref 117), (1, .int (-2147483646))]) (st2 := [.int (-2147483646)]) jF_267_0 rfl rfl) ?_
      refine Eq.trans (jr_s (pc2 := 2) (lv2 := [(0, .ref 117), (1, .int (-2147483646))]) (st2 := [.long (-2147483646)]) jF_267_1 rfl rfl) ?_
      refine Eq.trans (jr_s (pc2 := 3) (lv2 := [(0, .ref 117), (1, .int (-2147483646))]) (st2 := [.long 0, .long (-2147483646)]) jF_267_2 rfl rfl) ?_
      refine Eq.trans (jr_s (pc2 := 6) (lv2 := [(0, .ref 117), (1, .int (-2147483646))]) (st2 := [.long 17, .long 0, .long (-2147483646)]) jF_267_3 rfl rfl) ?_
      refine Eq.trans (jr_cS (as := [.long (-2147483646), .long 0, .long 17]) (rest := []) (v := some (.int 0)) (hp2 := jh2) (fr2 := 498) (lo2 := 19954) jF_267_6 rfl (show j_cnd 499 19979 498 19954 6 _ _ = true from rfl) ?_) ?_
      · refine Eq.trans (jr_s (pc2 := 1) (lv2 := [(0, .long (-2147483646)), (2, .long 0), (4, .long 17)]) (st2 := [.long (-2147483646)]) jF_232_0 rfl rfl) ?_
        refine Eq.trans (jr_s (pc2 := 2) (lv2 := [(0, .long (-2147483646)), (2, .long 0), (4, .long 17)]) (st2 := [.long 0, .long (-2147483646)]) jF_232_1 rfl rfl) ?_
        refine Eq.trans (jr_s (pc2 := 3) (lv2 := [(0, .long (-2147483646)), (2, .long 0), (4, .long 17)]) (st2 := [.int (-1)]) jF_232_2 rfl rfl) ?_
        refine Eq.trans (jr_if1 jF_232_3 (by decide +kernel)) ?_
        refine Eq.trans (jr_s (pc2 := 18) (lv2 := [(0, .long (-2147483646)), (2, .long 0), (4, .long 17)]) (st2 := [.int 0]) jF_232_17 rfl rfl) ?_
        exact jr_ri jF_232_18 rfl
      refine Eq.trans (jr_if1 jF_267_9 (by decide +kernel)) ?_
      refine Eq.trans (jr_s (pc2 := 23) (lv2 := [(0, .ref 117), (1, .int (-2147483646))]) (st2 := [.int (-2147483646)]) jF_267_22 rfl rfl) ?_
      refine Eq.trans (jr_s (pc2 := 25) (lv2 := [(0, .ref 117), (1, .int (-2147483646))]) (st2 := [.int 20, .int (-2147483646)]) jF_267_23 rfl rfl) ?_
      refine Eq.trans (jr_s (pc2 := 26) (lv2 := [(0, .ref 117), (1, .int (-2147483646))]) (st2 := [.int 2147483630]) jF_267_25 rfl rfl) ?_
      refine Eq.trans (jr_s (pc2 := 27) (lv2 := [(0, .ref 117), (1, .int (-2147483646))]) (st2 := [.long 2147483630]) jF_267_26 rfl rfl) ?_
      refine Eq.trans (jr_s (pc2 := 28) (lv2 := [(0, .ref 117), (1, .int (-2147483646))]) (st2 := [.long 0, .long 2147483630]) jF_267_27 rfl rfl) ?_
      refine Eq.trans (jr_s (pc2 := 29) (lv2 := [(0, .ref 117), (1, .int (-2147483646))]) (st2 := [.ref 117, .long 0, .long 2147483630]) jF_267_28 rfl rfl) ?_
      refine Eq.trans (jr_gf (v := .int 0) jF_267_29 (by decide +kernel)) ?_
      refine Eq.trans (jr_s (pc2 := 33) (lv2 := [(0, .ref 117), (1, .int (-2147483646))]) (st2 := [.int 1, .int 0, .long 0, .long 2147483630]) jF_267_32 rfl rfl) ?_
      refine Eq.trans (jr_s (pc2 := 34) (lv2 := [(0, .ref 117), (1, .int (-2147483646))]) (st2 := [.int (-1), .long 0, .long 2147483630]) jF_267_33 rfl rfl) ?_
      refine Eq.trans (jr_s (pc2 := 35) (lv2 := [(0, .ref 117), (1, .int (-2147483646))]) (st2 := [.long (-1), .long 0, .long 2147483630]) jF_267_34 rfl rfl) ?_
      refine Eq.trans (jr_cS (as := [.long 2147483630, .long 0, .long (-1)]) (rest := []) (v := some (.int 0)) (hp2 := jh2) (fr2 := 498) (lo2 := 19954) jF_267_35 rfl (show j_cnd 499 19979 498 19954 6 _ _ = true from rfl) ?_) ?_
      · refine Eq.trans (jr_s (pc2 := 1) (lv2 := [(0, .long 2147483630), (2, .long 0), (4, .long (-1))]) (st2 := [.long 2147483630]) jF_232_0 rfl rfl) ?_
        refine Eq.trans (jr_s (pc2 := 2) (lv2 := [(0, .long 2147483630), (2, .long 0), (4, .long (-1))]) (st2 := [.long 0, .long 2147483630]) jF_232_1 rfl rfl) ?_
        refine Eq.trans (jr_s (pc2 := 3) (lv2 := [(0, .long 2147483630), (2, .long 0), (4, .long (-1))]) (st2 := [.int 1]) jF_232_2 rfl rfl) ?_
        refine Eq.trans (jr_if0 jF_232_3 (by decide +kernel)) ?_
        refine Eq.trans (jr_s (pc2 := 7) (lv2 := [(0, .long 2147483630), (2, .long 0), (4, .long (-1))]) (st2 := [.long 2147483630]) jF_232_6 rfl rfl) ?_
        refine Eq.trans (jr_s (pc2 := 9) (lv2 := [(0, .long 2147483630), (2, .long 0), (4, .long (-1))]) (st2 := [.long (-1), .long 2147483630]) jF_232_7 rfl rfl) ?_
        refine Eq.trans (jr_s (pc2 := 10) (lv2 := [(0, .long 2147483630), (2, .long 0), (4, .long (-1))]) (st2 := [.int 1]) jF_232_9 rfl rfl) ?_
        refine Eq.trans (jr_if1 jF_232_10 (by decide +kernel)) ?_
        refine Eq.trans (jr_s (pc2 := 18) (lv2 := [(0, .long 2147483630), (2, .long 0), (4, .long (-1))]) (st2 := [.int 0]) jF_232_17 rfl rfl) ?_
        exact jr_ri jF_232_18 rfl
      refine Eq.trans (jr_if1 jF_267_38 (by decide +kernel)) ?_
      refine Eq.trans (jr_s (pc2 := 56) (lv2 := [(0, .ref 117), (1, .int (-2147483646))]) (st2 := [.long 0]) jF_267_55 rfl rfl) ?_
      exact jr_rl jF_267_56
    refine Eq.trans (jr_s (pc2 := 6) (lv2 := [(3, .long 0), (0, .ref 117), (1, .int (-2147483646)), (2, .int a2)]) (st2 := []) jF_266_5 rfl rfl) ?_
    refine Eq.trans (jr_s (pc2 := 7) (lv2 := [(3, .long 0), (0, .ref 117), (1, .int (-2147483646)), (2, .int a2)]) (st2 := [.long 0]) jF_266_6 rfl rfl) ?_
    refine Eq.trans (jr_s (pc2 := 8) (lv2 := [(3, .long 0), (0, .ref 117), (1, .int (-2147483646)), (2, .int a2)]) (st2 := [.long 0, .long 0]) jF_266_7 rfl rfl) ?_
    refine Eq.trans (jr_s (pc2 := 9) (lv2 := [(3, .long 0), (0, .ref 117), (1, .int (-2147483646)), (2, .int a2)]) (st2 := [.int 0]) jF_266_8 rfl rfl) ?_
    refine Eq.trans (jr_if1 jF_266_9 (by decide +kernel)) ?_
    refine Eq.trans (jr_s (pc2 := 25) (lv2 := [(3, .long 0), (0, .ref 117), (1, .int (-2147483646)), (2, .int a2)]) (st2 := [.int (-1)]) jF_266_24 rfl rfl) ?_
    exact jr_ri jF_266_25 rfl
set_option maxHeartbeats 8000000 in
set_option maxRecDepth 100000 in
theorem pm_letter_L3 (a2 : Int32) (hl_a2 : (-2147483648) ≤ a2.toInt) (hh_a2 : a2.toInt ≤ 2147483647) : PM 92 266 [.int (-2147483645), .int a2] := by
  refine ⟨60000, 60000, (-1), jh2, jh2, ?_, ?_, by decide +kernel⟩
  · refine Eq.trans (jr_s (pc2 := 1) (lv2 := [(0, .ref 9), (1, .int (-2147483645)), (2, .int a2)]) (st2 := [.ref 9]) jF_92_0 rfl rfl) ?_
    refine Eq.trans (jr_gf (v := .ref 20) jF_92_1 (by decide +kernel)) ?_
    refine Eq.trans (jr_s (pc2 := 5) (lv2 := [(0, .ref 9), (1, .int (-2147483645)), (2, .int a2)]) (st2 := [.int (-2147483645), .ref 20]) jF_92_4 rfl rfl) ?_
    refine Eq.trans (jr_s (pc2 := 6) (lv2 := [(0, .ref 9), (1, .int (-2147483645)), (2, .int a2)]) (st2 := [.int a2, .int (-2147483645), .ref 20]) jF_92_5 rfl rfl) ?_
    refine Eq.trans (jr_cV (a := 20) (as := [.int (-2147483645), .int a2]) (rest := []) (v := some (.int (-1))) (hp2 := jh2) (fr2 := 499) (lo2 := 19978) jF_92_6 (by decide +kernel) rfl (show j_cnd 500 20000 499 19978 3 _ _ = true from rfl) ?_) ?_
    · refine Eq.trans (jr_s (pc2 := 1) (lv2 := [(0, .ref 20), (1, .int (-2147483645)), (2, .int a2)]) (st2 := [.int (-2147483645)]) jF_93_0 rfl rfl) ?_
      refine Eq.trans (jr_if1 jF_93_1 (by decide +kernel)) ?_
      refine Eq.trans (jr_s (pc2 := 33) (lv2 := [(0, .ref 20), (1, .int (-2147483645)), (2, .int a2)]) (st2 := [.int (-1)]) jF_93_32 rfl rfl) ?_
      exact jr_ri jF_93_33 rfl
    exact jr_ri jF_92_9 rfl
  · refine Eq.trans (jr_s (pc2 := 1) (lv2 := [(0, .ref 117), (1, .int (-2147483645)), (2, .int a2)]) (st2 := [.ref 117]) jF_266_0 rfl rfl) ?_
    refine Eq.trans (jr_s (pc2 := 2) (lv2 := [(0, .ref 117), (1, .int (-2147483645)), (2, .int a2)]) (st2 := [.int (-2147483645), .ref 117]) jF_266_1 rfl rfl) ?_
    refine Eq.trans (jr_cV (a := 117) (as := [.int (-2147483645)]) (rest := []) (v := some (.long 0)) (hp2 := jh2) (fr2 := 499) (lo2 := 19979) jF_266_2 (by decide +kernel) rfl (show j_cnd 500 20000 499 19979 2 _ _ = true from rfl) ?_) ?_
    · refine Eq.trans (jr_s (pc2 := 1) (lv2 := [(0, .ref 117), (1, .int (-2147483645))]) (st2 := [.int (-2147483645)]) jF_267_0 rfl rfl) ?_
      refine Eq.trans (jr_s (pc2 := 2) (lv2 := [(0, .ref 117), (1, .int (-2147483645))]) (st2 := [.long (-2147483645)]) jF_267_1 rfl rfl) ?_
      refine Eq.trans (jr_s (pc2 := 3) (lv2 := [(0, .ref 117), (1, .int (-2147483645))]) (st2 := [.long 0, .long (-2147483645)]) jF_267_2 rfl rfl) ?_
      refine Eq.trans (jr_s (pc2 := 6) (lv2 := [(0, .ref 117), (1, .int (-2147483645))]) (st2 := [.long 17, .long 0, .long (-2147483645)]) jF_267_3 rfl rfl) ?_
      refine Eq.trans (jr_cS (as := [.long (-2147483645), .long 0, .long 17]) (rest := []) (v := some (.int 0)) (hp2 := jh2) (fr2 := 498) (lo2 := 19954) jF_267_6 rfl (show j_cnd 499 19979 498 19954 6 _ _ = true from rfl) ?_) ?_
      · refine Eq.trans (jr_s (pc2 := 1) (lv2 := [(0, .long (-2147483645)), (2, .long 0), (4, .long 17)]) (st2 := [.long (-2147483645)]) jF_232_0 rfl rfl) ?_
        refine Eq.trans (jr_s (pc2 := 2) (lv2 := [(0, .long (-2147483645)), (2, .long 0), (4, .long 17)]) (st2 := [.long 0, .long (-2147483645)]) jF_232_1 rfl rfl) ?_
        refine Eq.trans (jr_s (pc2 := 3) (lv2 := [(0, .long (-2147483645)), (2, .long 0), (4, .long 17)]) (st2 := [.int (-1)]) jF_232_2 rfl rfl) ?_
        refine Eq.trans (jr_if1 jF_232_3 (by decide +kernel)) ?_
        refine Eq.trans (jr_s (pc2 := 18) (lv2 := [(0, .long (-2147483645)), (2, .long 0), (4, .long 17)]) (st2 := [.int 0]) jF_232_17 rfl rfl) ?_
        exact jr_ri jF_232_18 rfl
      refine Eq.trans (jr_if1 jF_267_9 (by decide +kernel)) ?_
      refine Eq.trans (jr_s (pc2 := 23) (lv2 := [(0, .ref 117), (1, .int (-2147483645))]) (st2 := [.int (-2147483645)]) jF_267_22 rfl rfl) ?_
      refine Eq.trans (jr_s (pc2 := 25) (lv2 := [(0, .ref 117), (1, .int (-2147483645))]) (st2 := [.int 20, .int (-2147483645)]) jF_267_23 rfl rfl) ?_
      refine Eq.trans (jr_s (pc2 := 26) (lv2 := [(0, .ref 117), (1, .int (-2147483645))]) (st2 := [.int 2147483631]) jF_267_25 rfl rfl) ?_
      refine Eq.trans (jr_s (pc2 := 27) (lv2 := [(0, .ref 117), (1, .int (-2147483645))]) (st2 := [.long 2147483631]) jF_267_26 rfl rfl) ?_
      refine Eq.trans (jr_s (pc2 := 28) (lv2 := [(0, .ref 117), (1, .int (-2147483645))]) (st2 := [.long 0, .long 2147483631]) jF_267_27 rfl rfl) ?_
      refine Eq.trans (jr_s (pc2 := 29) (lv2 := [(0, .ref 117), (1, .int (-2147483645))]) (st2 := [.ref 117, .long 0, .long 2147483631]) jF_267_28 rfl rfl) ?_
      refine Eq.trans (jr_gf (v := .int 0) jF_267_29 (by decide +kernel)) ?_
      refine Eq.trans (jr_s (pc2 := 33) (lv2 := [(0, .ref 117), (1, .int (-2147483645))]) (st2 := [.int 1, .int 0, .long 0, .long 2147483631]) jF_267_32 rfl rfl) ?_
      refine Eq.trans (jr_s (pc2 := 34) (lv2 := [(0, .ref 117), (1, .int (-2147483645))]) (st2 := [.int (-1), .long 0, .long 2147483631]) jF_267_33 rfl rfl) ?_
      refine Eq.trans (jr_s (pc2 := 35) (lv2 := [(0, .ref 117), (1, .int (-2147483645))]) (st2 := [.long (-1), .long 0, .long 2147483631]) jF_267_34 rfl rfl) ?_
      refine Eq.trans (jr_cS (as := [.long 2147483631, .long 0, .long (-1)]) (rest := []) (v := some (.int 0)) (hp2 := jh2) (fr2 := 498) (lo2 := 19954) jF_267_35 rfl (show j_cnd 499 19979 498 19954 6 _ _ = true from rfl) ?_) ?_
      · refine Eq.trans (jr_s (pc2 := 1) (lv2 := [(0, .long 2147483631), (2, .long 0), (4, .long (-1))]) (st2 := [.long 2147483631]) jF_232_0 rfl rfl) ?_
        refine Eq.trans (jr_s (pc2 := 2) (lv2 := [(0, .long 2147483631), (2, .long 0), (4, .long (-1))]) (st2 := [.long 0, .long 2147483631]) jF_232_1 rfl rfl) ?_
        refine Eq.trans (jr_s (pc2 := 3) (lv2 := [(0, .long 2147483631), (2, .long 0), (4, .long (-1))]) (st2 := [.int 1]) jF_232_2 rfl rfl) ?_
        refine Eq.trans (jr_if0 jF_232_3 (by decide +kernel)) ?_
        refine Eq.trans (jr_s (pc2 := 7) (lv2 := [(0, .long 2147483631), (2, .long 0), (4, .long (-1))]) (st2 := [.long 2147483631]) jF_232_6 rfl rfl) ?_
        refine Eq.trans (jr_s (pc2 := 9) (lv2 := [(0, .long 2147483631), (2, .long 0), (4, .long (-1))]) (st2 := [.long (-1), .long 2147483631]) jF_232_7 rfl rfl) ?_
        refine Eq.trans (jr_s (pc2 := 10) (lv2 := [(0, .long 2147483631), (2, .long 0), (4, .long (-1))]) (st2 := [.int 1]) jF_232_9 rfl rfl) ?_
        refine Eq.trans (jr_if1 jF_232_10 (by decide +kernel)) ?_
        refine Eq.trans (jr_s (pc2 := 18) (lv2 := [(0, .long 2147483631), (2, .long 0), (4, .long (-1))]) (st2 := [.int 0]) jF_232_17 rfl rfl) ?_
        exact jr_ri jF_232_18 rfl
      refine Eq.trans (jr_if1 jF_267_38 (by decide +kernel)) ?_
      refine Eq.trans (jr_s (pc2 := 56) (lv2 := [(0, .ref 117), (1, .int (-2147483645))]) (st2 := [.long 0]) jF_267_55 rfl rfl) ?_
      exact jr_rl jF_267_56
    refine Eq.trans (jr_s (pc2 := 6) (lv2 := [(3, .long 0), (0, .ref 117), (1, .int (-2147483645)), (2, .int a2)]) (st2 := []) jF_266_5 rfl rfl) ?_
    refine Eq.trans (jr_s (pc2 := 7) (lv2 := [(3, .long 0), (0, .ref 117), (1, .int (-2147483645)), (2, .int a2)]) (st2 := [.long 0]) jF_266_6 rfl rfl) ?_
    refine Eq.trans (jr_s (pc2 := 8) (lv2 := [(3, .long 0), (0, .ref 117), (1, .int (-2147483645)), (2, .int a2)]) (st2 := [.long 0, .long 0]) jF_266_7 rfl rfl) ?_
    refine Eq.trans (jr_s (pc2 := 9) (lv2 := [(3, .long 0), (0, .ref 117), (1, .int (-2147483645)), (2, .int a2)]) (st2 := [.int 0]) jF_266_8 rfl rfl) ?_
    refine Eq.trans (jr_if1 jF_266_9 (by decide +kernel)) ?_
    refine Eq.trans (jr_s (pc2 := 25) (lv2 := [(3, .long 0), (0, .ref 117), (1, .int (-2147483645)), (2, .int a2)]) (st2 := [.int (-1)]) jF_266_24 rfl rfl) ?_
    exact jr_ri jF_266_25 rfl
set_option maxHeartbeats 8000000 in
set_option maxRecDepth 100000 in
theorem pm_letter_L4 (a2 : Int32) (hl_a2 : (-2147483648) ≤ a2.toInt) (hh_a2 : a2.toInt ≤ 2147483647) : PM 92 266 [.int (-2147483644), .int a2] := by
  refine ⟨60000, 60000, (-1), jh2, jh2, ?_, ?_, by decide +kernel⟩
  · refine Eq.trans (jr_s (pc2 := 1) (lv2 := [(0, .ref 9), (1, .int (-2147483644)), (2, .int a2)]) (st2 := [.ref 9]) jF_92_0 rfl rfl) ?_
    refine Eq.trans (jr_gf (v := .ref 20) jF_92_1 (by decide +kernel)) ?_
    refine Eq.trans (jr_s (pc2 := 5) (lv2 := [(0, .ref 9), (1, .int (-2147483644)), (2, .int a2)]) (st2 := [.int (-2147483644), .ref 20]) jF_92_4 rfl rfl) ?_
    refine Eq.trans (jr_s (pc2 := 6) (lv2 := [(0, .ref 9), (1, .int (-2147483644)), (2, .int a2)]) (st2 := [.int a2, .int (-2147483644), .ref 20]) jF_92_5 rfl rfl) ?_
    refine Eq.trans (jr_cV (a := 20) (as := [.int (-2147483644), .int a2]) (rest := []) (v := some (.int (-1))) (hp2 := jh2) (fr2 := 499) (lo2 := 19978) jF_92_6 (by decide +kernel) rfl (show j_cnd 500 20000 499 19978 3 _ _ = true from rfl) ?_) ?_
    · refine Eq.trans (jr_s (pc2 := 1) (lv2 := [(0, .ref 20), (1, .int (-2147483644)), (2, .int a2)]) (st2 := [.int (-2147483644)]) jF_93_0 rfl rfl) ?_
      refine Eq.trans (jr_if1 jF_93_1 (by decide +kernel)) ?_
      refine Eq.trans (jr_s (pc2 := 33) (lv2 := [(0, .ref 20), (1, .int (-2147483644)), (2, .int a2)]) (st2 := [.int (-1)]) jF_93_32 rfl rfl) ?_
      exact jr_ri jF_93_33 rfl
    exact jr_ri jF_92_9 rfl
  · refine Eq.trans (jr_s (pc2 := 1) (lv2 := [(0, .ref 117), (1, .int (-2147483644)), (2, .int a2)]) (st2 := [.ref 117]) jF_266_0 rfl rfl) ?_
    refine Eq.trans (jr_s (pc2 := 2) (lv2 := [(0, .ref 117), (1, .int (-2147483644)), (2, .int a2)]) (st2 := [.int (-2147483644), .ref 117]) jF_266_1 rfl rfl) ?_
    refine Eq.trans (jr_cV (a := 117) (as := [.int (-2147483644)]) (rest := []) (v := some (.long 0)) (hp2 := jh2) (fr2 := 499) (lo2 := 19979) jF_266_2 (by decide +kernel) rfl (show j_cnd 500 20000 499 19979 2 _ _ = true from rfl) ?_) ?_
    · refine Eq.trans (jr_s (pc2 := 1) (lv2 := [(0, .ref 117), (1, .int (-2147483644))]) (st2 := [.int (-2147483644)]) jF_267_0 rfl rfl) ?_
      refine Eq.trans (jr_s (pc2 := 2) (lv2 := [(0, .ref 117), (1, .int (-2147483644))]) (st2 := [.long (-2147483644)]) jF_267_1 rfl rfl) ?_
      refine Eq.trans (jr_s (pc2 := 3) (lv2 := [(0, .ref 117), (1, .int (-2147483644))]) (st2 := [.long 0, .long (-2147483644)]) jF_267_2 rfl rfl) ?_
      refine Eq.trans (jr_s (pc2 := 6) (lv2 := [(0, .ref 117), (1, .int (-2147483644))]) (st2 := [.long 17, .long 0, .long (-2147483644)]) jF_267_3 rfl rfl) ?_
      refine Eq.trans (jr_cS (as := [.long (-2147483644), .long 0, .long 17]) (rest := []) (v := some (.int 0)) (hp2 := jh2) (fr2 := 498) (lo2 := 19954) jF_267_6 rfl (show j_cnd 499 19979 498 19954 6 _ _ = true from rfl) ?_) ?_
      · refine Eq.trans (jr_s (pc2 := 1) (lv2 := [(0, .long (-2147483644)), (2, .long 0), (4, .long 17)]) (st2 := [.long (-2147483644)]) jF_232_0 rfl rfl) ?_
        refine Eq.trans (jr_s (pc2 := 2) (lv2 := [(0, .long (-2147483644)), (2, .long 0), (4, .long 17)]) (st2 := [.long 0, .long (-2147483644)]) jF_232_1 rfl rfl) ?_
        refine Eq.trans (jr_s (pc2 := 3) (lv2 := [(0, .long (-2147483644)), (2, .long 0), (4, .long 17)]) (st2 := [.int (-1)]) jF_232_2 rfl rfl) ?_
        refine Eq.trans (jr_if1 jF_232_3 (by decide +kernel)) ?_
        refine Eq.trans (jr_s (pc2 := 18) (lv2 := [(0, .long (-2147483644)), (2, .long 0), (4, .long 17)]) (st2 := [.int 0]) jF_232_17 rfl rfl) ?_
        exact jr_ri jF_232_18 rfl
      refine Eq.trans (jr_if1 jF_267_9 (by decide +kernel)) ?_
      refine Eq.trans (jr_s (pc2 := 23) (lv2 := [(0, .ref 117), (1, .int (-2147483644))]) (st2 := [.int (-2147483644)]) jF_267_22 rfl rfl) ?_
      refine Eq.trans (jr_s (pc2 := 25) (lv2 := [(0, .ref 117), (1, .int (-2147483644))]) (st2 := [.int 20, .int (-2147483644)]) jF_267_23 rfl rfl) ?_
      refine Eq.trans (jr_s (pc2 := 26) (lv2 := [(0, .ref 117), (1, .int (-2147483644))]) (st2 := [.int 2147483632]) jF_267_25 rfl rfl) ?_
      refine Eq.trans (jr_s (pc2 := 27) (lv2 := [(0, .ref 117), (1, .int (-2147483644))]) (st2 := [.long 2147483632]) jF_267_26 rfl rfl) ?_
      refine Eq.trans (jr_s (pc2 := 28) (lv2 := [(0, .ref 117), (1, .int (-2147483644))]) (st2 := [.long 0, .long 2147483632]) jF_267_27 rfl rfl) ?_
      refine Eq.trans (jr_s (pc2 := 29) (lv2 := [(0, .ref 117), (1, .int (-2147483644))]) (st2 := [.ref 117, .long 0, .long 2147483632]) jF_267_28 rfl rfl) ?_
      refine Eq.trans (jr_gf (v := .int 0) jF_267_29 (by decide +kernel)) ?_
      refine Eq.trans (jr_s (pc2 := 33) (lv2 := [(0, .ref 117), (1, .int (-2147483644))]) (st2 := [.int 1, .int 0, .long 0, .long 2147483632]) jF_267_32 rfl rfl) ?_
      refine Eq.trans (jr_s (pc2 := 34) (lv2 := [(0, .ref 117), (1, .int (-2147483644))]) (st2 := [.int (-1), .long 0, .long 2147483632]) jF_267_33 rfl rfl) ?_
      refine Eq.trans (jr_s (pc2 := 35) (lv2 := [(0, .ref 117), (1, .int (-2147483644))]) (st2 := [.long (-1), .long 0, .long 2147483632]) jF_267_34 rfl rfl) ?_
      refine Eq.trans (jr_cS (as := [.long 2147483632, .long 0, .long (-1)]) (rest := []) (v := some (.int 0)) (hp2 := jh2) (fr2 := 498) (lo2 := 19954) jF_267_35 rfl (show j_cnd 499 19979 498 19954 6 _ _ = true from rfl) ?_) ?_
      · refine Eq.trans (jr_s (pc2 := 1) (lv2 := [(0, .long 2147483632), (2, .long 0), (4, .long (-1))]) (st2 := [.long 2147483632]) jF_232_0 rfl rfl) ?_
        refine Eq.trans (jr_s (pc2 := 2) (lv2 := [(0, .long 2147483632), (2, .long 0), (4, .long (-1))]) (st2 := [.long 0, .long 2147483632]) jF_232_1 rfl rfl) ?_
        refine Eq.trans (jr_s (pc2 := 3) (lv2 := [(0, .long 2147483632), (2, .long 0), (4, .long (-1))]) (st2 := [.int 1]) jF_232_2 rfl rfl) ?_
        refine Eq.trans (jr_if0 jF_232_3 (by decide +kernel)) ?_
        refine Eq.trans (jr_s (pc2 := 7) (lv2 := [(0, .long 2147483632), (2, .long 0), (4, .long (-1))]) (st2 := [.long 2147483632]) jF_232_6 rfl rfl) ?_
        refine Eq.trans (jr_s (pc2 := 9) (lv2 := [(0, .long 2147483632), (2, .long 0), (4, .long (-1))]) (st2 := [.long (-1), .long 2147483632]) jF_232_7 rfl rfl) ?_
        refine Eq.trans (jr_s (pc2 := 10) (lv2 := [(0, .long 2147483632), (2, .long 0), (4, .long (-1))]) (st2 := [.int 1]) jF_232_9 rfl rfl) ?_
        refine Eq.trans (jr_if1 jF_232_10 (by decide +kernel)) ?_
        refine Eq.trans (jr_s (pc2 := 18) (lv2 := [(0, .long 2147483632), (2, .long 0), (4, .long (-1))]) (st2 := [.int 0]) jF_232_17 rfl rfl) ?_
        exact jr_ri jF_232_18 rfl
      refine Eq.trans (jr_if1 jF_267_38 (by decide +kernel)) ?_
      refine Eq.trans (jr_s (pc2 := 56) (lv2 := [(0, .ref 117), (1, .int (-2147483644))]) (st2 := [.long 0]) jF_267_55 rfl rfl) ?_
      exact jr_rl jF_267_56
    refine Eq.trans (jr_s (pc2 := 6) (lv2 := [(3, .long 0), (0, .ref 117), (1, .int (-2147483644)), (2, .int a2)]) (st2 := []) jF_266_5 rfl rfl) ?_
    refine Eq.trans (jr_s (pc2 := 7) (lv2 := [(3, .long 0), (0, .ref 117), (1, .int (-2147483644)), (2, .int a2)]) (st2 := [.long 0]) jF_266_6 rfl rfl) ?_
    refine Eq.trans (jr_s (pc2 := 8) (lv2 := [(3, .long 0), (0, .ref 117), (1, .int (-2147483644)), (2, .int a2)]) (st2 := [.long 0, .long 0]) jF_266_7 rfl rfl) ?_
    refine Eq.trans (jr_s (pc2 := 9) (lv2 := [(3, .long 0), (0, .ref 117), (1, .int (-2147483644)), (2, .int a2)]) (st2 := [.int 0]) jF_266_8 rfl rfl) ?_
    refine Eq.trans (jr_if1 jF_266_9 (by decide +kernel)) ?_
    refine Eq.trans (jr_s (pc2 := 25) (lv2 := [(3, .long 0), (0, .ref 117), (1, .int (-2147483644)), (2, .int a2)]) (st2 := [.int (-1)]) jF_266_24 rfl rfl) ?_
    exact jr_ri jF_266_25 rfl
set_option maxHeartbeats 8000000 in
set_option maxRecDepth 100000 in
theorem pm_letter_L5 (a2 : Int32) (hl_a2 : (-2147483648) ≤ a2.toInt) (hh_a2 : a2.toInt ≤ 2147483647) : PM 92 266 [.int (-2147483643), .int a2] := by
  refine ⟨60000, 60000, (-1), jh2, jh2, ?_, ?_, by decide +kernel⟩
  · refine Eq.trans (jr_s (pc2 := 1) (lv2 := [(0, .ref 9), (1, .int (-2147483643)), (2, .int a2)]) (st2 := [.ref 9]) jF_92_0 rfl rfl) ?_
    refine Eq.trans (jr_gf (v := .ref 20) jF_92_1 (by decide +kernel)) ?_
    refine Eq.trans (jr_s (pc2 := 5) (lv2 := [(0, .ref 9), (1, .int (-2147483643)), (2, .int a2)]) (st2 := [.int (-2147483643), .ref 20]) jF_92_4 rfl rfl) ?_
    refine Eq.trans (jr_s (pc2 := 6) (lv2 := [(0, .ref 9), (1, .int (-2147483643)), (2, .int a2)]) (st2 := [.int a2, .int (-2147483643), .ref 20]) jF_92_5 rfl rfl) ?_
    refine Eq.trans (jr_cV (a := 20) (as := [.int (-2147483643), .int a2]) (rest := []) (v := some (.int (-1))) (hp2 := jh2) (fr2 := 499) (lo2 := 19978) jF_92_6 (by decide +kernel) rfl (show j_cnd 500 20000 499 19978 3 _ _ = true from rfl) ?_) ?_
    · refine Eq.trans (jr_s (pc2 := 1) (lv2 := [(0, .ref 20), (1, .int (-2147483643)), (2, .int a2)]) (st2 := [.int (-2147483643)]) jF_93_0 rfl rfl) ?_
      refine Eq.trans (jr_if1 jF_93_1 (by decide +kernel)) ?_
      refine Eq.trans (jr_s (pc2 := 33) (lv2 := [(0, .ref 20), (1, .int (-2147483643)), (2, .int a2)]) (st2 := [.int (-1)]) jF_93_32 rfl rfl) ?_
      exact jr_ri jF_93_33 rfl
    exact jr_ri jF_92_9 rfl
  · refine Eq.trans (jr_s (pc2 := 1) (lv2 := [(0, .ref 117), (1, .int (-2147483643)), (2, .int a2)]) (st2 := [.ref 117]) jF_266_0 rfl rfl) ?_
    refine Eq.trans (jr_s (pc2 := 2) (lv2 := [(0, .ref 117), (1, .int (-2147483643)), (2, .int a2)]) (st2 := [.int (-2147483643), .ref 117]) jF_266_1 rfl rfl) ?_
    refine Eq.trans (jr_cV (a := 117) (as := [.int (-2147483643)]) (rest := []) (v := some (.long 0)) (hp2 := jh2) (fr2 := 499) (lo2 := 19979) jF_266_2 (by decide +kernel) rfl (show j_cnd 500 20000 499 19979 2 _ _ = true from rfl) ?_) ?_
    · refine Eq.trans (jr_s (pc2 := 1) (lv2 := [(0, .ref 117), (1, .int (-2147483643))]) (st2 := [.int (-2147483643)]) jF_267_0 rfl rfl) ?_
      refine Eq.trans (jr_s (pc2 := 2) (lv2 := [(0, .ref 117), (1, .int (-2147483643))]) (st2 := [.long (-2147483643)]) jF_267_1 rfl rfl) ?_
      refine Eq.trans (jr_s (pc2 := 3) (lv2 := [(0, .ref 117), (1, .int (-2147483643))]) (st2 := [.long 0, .long (-2147483643)]) jF_267_2 rfl rfl) ?_
      refine Eq.trans (jr_s (pc2 := 6) (lv2 := [(0, .ref 117), (1, .int (-2147483643))]) (st2 := [.long 17, .long 0, .long (-2147483643)]) jF_267_3 rfl rfl) ?_
      refine Eq.trans (jr_cS (as := [.long (-2147483643), .long 0, .long 17]) (rest := []) (v := some (.int 0)) (hp2 := jh2) (fr2 := 498) (lo2 := 19954) jF_267_6 rfl (show j_cnd 499 19979 498 19954 6 _ _ = true from rfl) ?_) ?_
      · refine Eq.trans (jr_s (pc2 := 1) (lv2 := [(0, .long (-2147483643)), (2, .long 0), (4, .long 17)]) (st2 := [.long (-2147483643)]) jF_232_0 rfl rfl) ?_
        refine Eq.trans (jr_s (pc2 := 2) (lv2 := [(0, .long (-2147483643)), (2, .long 0), (4, .long 17)]) (st2 := [.long 0, .long (-2147483643)]) jF_232_1 rfl rfl) ?_
        refine Eq.trans (jr_s (pc2 := 3) (lv2 := [(0, .long (-2147483643)), (2, .long 0), (4, .long 17)]) (st2 := [.int (-1)]) jF_232_2 rfl rfl) ?_
        refine Eq.trans (jr_if1 jF_232_3 (by decide +kernel)) ?_
        refine Eq.trans (jr_s (pc2 := 18) (lv2 := [(0, .long (-2147483643)), (2, .long 0), (4, .long 17)]) (st2 := [.int 0]) jF_232_17 rfl rfl) ?_
        exact jr_ri jF_232_18 rfl
      refine Eq.trans (jr_if1 jF_267_9 (by decide +kernel)) ?_
      refine Eq.trans (jr_s (pc2 := 23) (lv2 := [(0, .ref 117), (1, .int (-2147483643))]) (st2 := [.int (-2147483643)]) jF_267_22 rfl rfl) ?_
      refine Eq.trans (jr_s (pc2 := 25) (lv2 := [(0, .ref 117), (1, .int (-2147483643))]) (st2 := [.int 20, .int (-2147483643)]) jF_267_23 rfl rfl) ?_
      refine Eq.trans (jr_s (pc2 := 26) (lv2 := [(0, .ref 117), (1, .int (-2147483643))]) (st2 := [.int 2147483633]) jF_267_25 rfl rfl) ?_
      refine Eq.trans (jr_s (pc2 := 27) (lv2 := [(0, .ref 117), (1, .int (-2147483643))]) (st2 := [.long 2147483633]) jF_267_26 rfl rfl) ?_
      refine Eq.trans (jr_s (pc2 := 28) (lv2 := [(0, .ref 117), (1, .int (-2147483643))]) (st2 := [.long 0, .long 2147483633]) jF_267_27 rfl rfl) ?_
      refine Eq.trans (jr_s (pc2 := 29) (lv2 := [(0, .ref 117), (1, .int (-2147483643))]) (st2 := [.ref 117, .long 0, .long 2147483633]) jF_267_28 rfl rfl) ?_
      refine Eq.trans (jr_gf (v := .int 0) jF_267_29 (by decide +kernel)) ?_
      refine Eq.trans (jr_s (pc2 := 33) (lv2 := [(0, .ref 117), (1, .int (-2147483643))]) (st2 := [.int 1, .int 0, .long 0, .long 2147483633]) jF_267_32 rfl rfl) ?_
      refine Eq.trans (jr_s (pc2 := 34) (lv2 := [(0, .ref 117), (1, .int (-2147483643))]) (st2 := [.int (-1), .long 0, .long 2147483633]) jF_267_33 rfl rfl) ?_
      refine Eq.trans (jr_s (pc2 := 35) (lv2 := [(0, .ref 117), (1, .int (-2147483643))]) (st2 := [.long (-1), .long 0, .long 2147483633]) jF_267_34 rfl rfl) ?_
      refine Eq.trans (jr_cS (as := [.long 2147483633, .long 0, .long (-1)]) (rest := []) (v := some (.int 0)) (hp2 := jh2) (fr2 := 498) (lo2 := 19954) jF_267_35 rfl (show j_cnd 499 19979 498 19954 6 _ _ = true from rfl) ?_) ?_
      · refine Eq.trans (jr_s (pc2 := 1) (lv2 := [(0, .long 2147483633), (2, .long 0), (4, .long (-1))]) (st2 := [.long 2147483633]) jF_232_0 rfl rfl) ?_
        refine Eq.trans (jr_s (pc2 := 2) (lv2 := [(0, .long 2147483633), (2, .long 0), (4, .long (-1))]) (st2 := [.long 0, .long 2147483633]) jF_232_1 rfl rfl) ?_
        refine Eq.trans (jr_s (pc2 := 3) (lv2 := [(0, .long 2147483633), (2, .long 0), (4, .long (-1))]) (st2 := [.int 1]) jF_232_2 rfl rfl) ?_
        refine Eq.trans (jr_if0 jF_232_3 (by decide +kernel)) ?_
        refine Eq.trans (jr_s (pc2 := 7) (lv2 := [(0, .long 2147483633), (2, .long 0), (4, .long (-1))]) (st2 := [.long 2147483633]) jF_232_6 rfl rfl) ?_
        refine Eq.trans (jr_s (pc2 := 9) (lv2 := [(0, .long 2147483633), (2, .long 0), (4, .long (-1))]) (st2 := [.long (-1), .long 2147483633]) jF_232_7 rfl rfl) ?_
        refine Eq.trans (jr_s (pc2 := 10) (lv2 := [(0, .long 2147483633), (2, .long 0), (4, .long (-1))]) (st2 := [.int 1]) jF_232_9 rfl rfl) ?_
        refine Eq.trans (jr_if1 jF_232_10 (by decide +kernel)) ?_
        refine Eq.trans (jr_s (pc2 := 18) (lv2 := [(0, .long 2147483633), (2, .long 0), (4, .long (-1))]) (st2 := [.int 0]) jF_232_17 rfl rfl) ?_
        exact jr_ri jF_232_18 rfl
      refine Eq.trans (jr_if1 jF_267_38 (by decide +kernel)) ?_
      refine Eq.trans (jr_s (pc2 := 56) (lv2 := [(0, .ref 117), (1, .int (-2147483643))]) (st2 := [.long 0]) jF_267_55 rfl rfl) ?_
      exact jr_rl jF_267_56
    refine Eq.trans (jr_s (pc2 := 6) (lv2 := [(3, .long 0), (0, .ref 117), (1, .int (-2147483643)), (2, .int a2)]) (st2 := []) jF_266_5 rfl rfl) ?_
    refine Eq.trans (jr_s (pc2 := 7) (lv2 := [(3, .long 0), (0, .ref 117), (1, .int (-2147483643)), (2, .int a2)]) (st2 := [.long 0]) jF_266_6 rfl rfl) ?_
    refine Eq.trans (jr_s (pc2 := 8) (lv2 := [(3, .long 0), (0, .ref 117), (1, .int (-2147483643)), (2, .int a2)]) (st2 := [.long 0, .long 0]) jF_266_7 rfl rfl) ?_
    refine Eq.trans (jr_s (pc2 := 9) (lv2 := [(3, .long 0), (0, .ref 117), (1, .int (-2147483643)), (2, .int a2)]) (st2 := [.int 0]) jF_266_8 rfl rfl) ?_
    refine Eq.trans (jr_if1 jF_266_9 (by decide +kernel)) ?_
    refine Eq.trans (jr_s (pc2 := 25) (lv2 := [(3, .long 0), (0, .ref 117), (1, .int (-2147483643)), (2, .int a2)]) (st2 := [.int (-1)]) jF_266_24 rfl rfl) ?_
    exact jr_ri jF_266_25 rfl
set_option maxHeartbeats 8000000 in
set_option maxRecDepth 100000 in
theorem pm_letter_L6 (a2 : Int32) (hl_a2 : (-2147483648) ≤ a2.toInt) (hh_a2 : a2.toInt ≤ 2147483647) : PM 92 266 [.int (-2147483642), .int a2] := by
  refine ⟨60000, 60000, (-1), jh2, jh2, ?_, ?_, by decide +kernel⟩
  · refine Eq.trans (jr_s (pc2 := 1) (lv2 := [(0, .ref 9), (1, .int (-2147483642)), (2, .int a2)]) (st2 := [.ref 9]) jF_92_0 rfl rfl) ?_
    refine Eq.trans (jr_gf (v := .ref 20) jF_92_1 (by decide +kernel)) ?_
    refine Eq.trans (jr_s (pc2 := 5) (lv2 := [(0, .ref 9), (1, .int (-2147483642)), (2, .int a2)]) (st2 := [.int (-2147483642), .ref 20]) jF_92_4 rfl rfl) ?_
    refine Eq.trans (jr_s (pc2 := 6) (lv2 := [(0, .ref 9), (1, .int (-2147483642)), (2, .int a2)]) (st2 := [.int a2, .int (-2147483642), .ref 20]) jF_92_5 rfl rfl) ?_
    refine Eq.trans (jr_cV (a := 20) (as := [.int (-2147483642), .int a2]) (rest := []) (v := some (.int (-1))) (hp2 := jh2) (fr2 := 499) (lo2 := 19978) jF_92_6 (by decide +kernel) rfl (show j_cnd 500 20000 499 19978 3 _ _ = true from rfl) ?_) ?_
    · refine Eq.trans (jr_s (pc2 := 1) (lv2 := [(0, .ref 20), (1, .int (-2147483642)), (2, .int a2)]) (st2 := [.int (-2147483642)]) jF_93_0 rfl rfl) ?_
      refine Eq.trans (jr_if1 jF_93_1 (by decide +kernel)) ?_
      refine Eq.trans (jr_s (pc2 := 33) (lv2 := [(0, .ref 20), (1, .int (-2147483642)), (2, .int a2)]) (st2 := [.int (-1)]) jF_93_32 rfl rfl) ?_
      exact jr_ri jF_93_33 rfl
    exact jr_ri jF_92_9 rfl
  · refine Eq.trans (jr_s (pc2 := 1) (lv2 := [(0, .ref 117), (1, .int (-2147483642)), (2, .int a2)]) (st2 := [.ref 117]) jF_266_0 rfl rfl) ?_
    refine Eq.trans (jr_s (pc2 := 2) (lv2 := [(0, .ref 117), (1, .int (-2147483642)), (2, .int a2)]) (st2 := [.int (-2147483642), .ref 117]) jF_266_1 rfl rfl) ?_
    refine Eq.trans (jr_cV (a := 117) (as := [.int (-2147483642)]) (rest := []) (v := some (.long 0)) (hp2 := jh2) (fr2 := 499) (lo2 := 19979) jF_266_2 (by decide +kernel) rfl (show j_cnd 500 20000 499 19979 2 _ _ = true from rfl) ?_) ?_
    · refine Eq.trans (jr_s (pc2 := 1) (lv2 := [(0, .ref 117), (1, .int (-2147483642))]) (st2 := [.int (-2147483642)]) jF_267_0 rfl rfl) ?_
      refine Eq.trans (jr_s (pc2 := 2) (lv2 := [(0, .ref 117), (1, .int (-2147483642))]) (st2 := [.long (-2147483642)]) jF_267_1 rfl rfl) ?_
      refine Eq.trans (jr_s (pc2 := 3) (lv2 := [(0, .ref 117), (1, .int (-2147483642))]) (st2 := [.long 0, .long (-2147483642)]) jF_267_2 rfl rfl) ?_
      refine Eq.trans (jr_s (pc2 := 6) (lv2 := [(0, .ref 117), (1, .int (-2147483642))]) (st2 := [.long 17, .long 0, .long (-2147483642)]) jF_267_3 rfl rfl) ?_
      refine Eq.trans (jr_cS (as := [.long (-2147483642), .long 0, .long 17]) (rest := []) (v := some (.int 0)) (hp2 := jh2) (fr2 := 498) (lo2 := 19954) jF_267_6 rfl (show j_cnd 499 19979 498 19954 6 _ _ = true from rfl) ?_) ?_
      · refine Eq.trans (jr_s (pc2 := 1) (lv2 := [(0, .long (-2147483642)), (2, .long 0), (4, .long 17)]) (st2 := [.long (-2147483642)]) jF_232_0 rfl rfl) ?_
        refine Eq.trans (jr_s (pc2 := 2) (lv2 := [(0, .long (-2147483642)), (2, .long 0), (4, .long 17)]) (st2 := [.long 0, .long (-2147483642)]) jF_232_1 rfl rfl) ?_
        refine Eq.trans (jr_s (pc2 := 3) (lv2 := [(0, .long (-2147483642)), (2, .long 0), (4, .long 17)]) (st2 := [.int (-1)]) jF_232_2 rfl rfl) ?_
        refine Eq.trans (jr_if1 jF_232_3 (by decide +kernel)) ?_
        refine Eq.trans (jr_s (pc2 := 18) (lv2 := [(0, .long (-2147483642)), (2, .long 0), (4, .long 17)]) (st2 := [.int 0]) jF_232_17 rfl rfl) ?_
        exact jr_ri jF_232_18 rfl
      refine Eq.trans (jr_if1 jF_267_9 (by decide +kernel)) ?_
      refine Eq.trans (jr_s (pc2 := 23) (lv2 := [(0, .ref 117), (1, .int (-2147483642))]) (st2 := [.int (-2147483642)]) jF_267_22 rfl rfl) ?_
      refine Eq.trans (jr_s (pc2 := 25) (lv2 := [(0, .ref 117), (1, .int (-2147483642))]) (st2 := [.int 20, .int (-2147483642)]) jF_267_23 rfl rfl) ?_
      refine Eq.trans (jr_s (pc2 := 26) (lv2 := [(0, .ref 117), (1, .int (-2147483642))]) (st2 := [.int 2147483634]) jF_267_25 rfl rfl) ?_
      refine Eq.trans (jr_s (pc2 := 27) (lv2 := [(0, .ref 117), (1, .int (-2147483642))]) (st2 := [.long 2147483634]) jF_267_26 rfl rfl) ?_
      refine Eq.trans (jr_s (pc2 := 28) (lv2 := [(0, .ref 117), (1, .int (-2147483642))]) (st2 := [.long 0, .long 2147483634]) jF_267_27 rfl rfl) ?_
      refine Eq.trans (jr_s (pc2 := 29) (lv2 := [(0, .ref 117), (1, .int (-2147483642))]) (st2 := [.ref 117, .long 0, .long 2147483634]) jF_267_28 rfl rfl) ?_
      refine Eq.trans (jr_gf (v := .int 0) jF_267_29 (by decide +kernel)) ?_
      refine Eq.trans (jr_s (pc2 := 33) (lv2 := [(0, .ref 117), (1, .int (-2147483642))]) (st2 := [.int 1, .int 0, .long 0, .long 2147483634]) jF_267_32 rfl rfl) ?_
      refine Eq.trans (jr_s (pc2 := 34) (lv2 := [(0, .ref 117), (1, .int (-2147483642))]) (st2 := [.int (-1), .long 0, .long 2147483634]) jF_267_33 rfl rfl) ?_
      refine Eq.trans (jr_s (pc2 := 35) (lv2 := [(0, .ref 117), (1, .int (-2147483642))]) (st2 := [.long (-1), .long 0, .long 2147483634]) jF_267_34 rfl rfl) ?_
      refine Eq.trans (jr_cS (as := [.long 2147483634, .long 0, .long (-1)]) (rest := []) (v := some (.int 0)) (hp2 := jh2) (fr2 := 498) (lo2 := 19954) jF_267_35 rfl (show j_cnd 499 19979 498 19954 6 _ _ = true from rfl) ?_) ?_
      · refine Eq.trans (jr_s (pc2 := 1) (lv2 := [(0, .long 2147483634), (2, .long 0), (4, .long (-1))]) (st2 := [.long 2147483634]) jF_232_0 rfl rfl) ?_
        refine Eq.trans (jr_s (pc2 := 2) (lv2 := [(0, .long 2147483634), (2, .long 0), (4, .long (-1))]) (st2 := [.long 0, .long 2147483634]) jF_232_1 rfl rfl) ?_
        refine Eq.trans (jr_s (pc2 := 3) (lv2 := [(0, .long 2147483634), (2, .long 0), (4, .long (-1))]) (st2 := [.int 1]) jF_232_2 rfl rfl) ?_
        refine Eq.trans (jr_if0 jF_232_3 (by decide +kernel)) ?_
        refine Eq.trans (jr_s (pc2 := 7) (lv2 := [(0, .long 2147483634), (2, .long 0), (4, .long (-1))]) (st2 := [.long 2147483634]) jF_232_6 rfl rfl) ?_
        refine Eq.trans (jr_s (pc2 := 9) (lv2 := [(0, .long 2147483634), (2, .long 0), (4, .long (-1))]) (st2 := [.long (-1), .long 2147483634]) jF_232_7 rfl rfl) ?_
        refine Eq.trans (jr_s (pc2 := 10) (lv2 := [(0, .long 2147483634), (2, .long 0), (4, .long (-1))]) (st2 := [.int 1]) jF_232_9 rfl rfl) ?_
        refine Eq.trans (jr_if1 jF_232_10 (by decide +kernel)) ?_
        refine Eq.trans (jr_s (pc2 := 18) (lv2 := [(0, .long 2147483634), (2, .long 0), (4, .long (-1))]) (st2 := [.int 0]) jF_232_17 rfl rfl) ?_
        exact jr_ri jF_232_18 rfl
      refine Eq.trans (jr_if1 jF_267_38 (by decide +kernel)) ?_
      refine Eq.trans (jr_s (pc2 := 56) (lv2 := [(0, .ref 117), (1, .int (-2147483642))]) (st2 := [.long 0]) jF_267_55 rfl rfl) ?_
      exact jr_rl jF_267_56
    refine Eq.trans (jr_s (pc2 := 6) (lv2 := [(3, .long 0), (0, .ref 117), (1, .int (-2147483642)), (2, .int a2)]) (st2 := []) jF_266_5 rfl rfl) ?_
    refine Eq.trans (jr_s (pc2 := 7) (lv2 := [(3, .long 0), (0, .ref 117), (1, .int (-2147483642)), (2, .int a2)]) (st2 := [.long 0]) jF_266_6 rfl rfl) ?_
    refine Eq.trans (jr_s (pc2 := 8) (lv2 := [(3, .long 0), (0, .ref 117), (1, .int (-2147483642)), (2, .int a2)]) (st2 := [.long 0, .long 0]) jF_266_7 rfl rfl) ?_
    refine Eq.trans (jr_s (pc2 := 9) (lv2 := [(3, .long 0), (0, .ref 117), (1, .int (-2147483642)), (2, .int a2)]) (st2 := [.int 0]) jF_266_8 rfl rfl) ?_
    refine Eq.trans (jr_if1 jF_266_9 (by decide +kernel)) ?_
    refine Eq.trans (jr_s (pc2 := 25) (lv2 := [(3, .long 0), (0, .ref 117), (1, .int (-2147483642)), (2, .int a2)]) (st2 := [.int (-1)]) jF_266_24 rfl rfl) ?_
    exact jr_ri jF_266_25 rfl
set_option maxHeartbeats 8000000 in
set_option maxRecDepth 100000 in
theorem pm_letter_L7 (a2 : Int32) (hl_a2 : (-2147483648) ≤ a2.toInt) (hh_a2 : a2.toInt ≤ 2147483647) : PM 92 266 [.int (-2147483641), .int a2] := by
  refine ⟨60000, 60000, (-1), jh2, jh2, ?_, ?_, by decide +kernel⟩
  · refine Eq.trans (jr_s (pc2 := 1) (lv2 := [(0, .ref 9), (1, .int (-2147483641)), (2, .int a2)]) (st2 := [.ref 9]) jF_92_0 rfl rfl) ?_
    refine Eq.trans (jr_gf (v := .ref 20) jF_92_1 (by decide +kernel)) ?_
    refine Eq.trans (jr_s (pc2 := 5) (lv2 := [(0, .ref 9), (1, .int (-2147483641)), (2, .int a2)]) (st2 := [.int (-2147483641), .ref 20]) jF_92_4 rfl rfl) ?_
    refine Eq.trans (jr_s (pc2 := 6) (lv2 := [(0, .ref 9), (1, .int (-2147483641)), (2, .int a2)]) (st2 := [.int a2, .int (-2147483641), .ref 20]) jF_92_5 rfl rfl) ?_
    refine Eq.trans (jr_cV (a := 20) (as := [.int (-2147483641), .int a2]) (rest := []) (v := some (.int (-1))) (hp2 := jh2) (fr2 := 499) (lo2 := 19978) jF_92_6 (by decide +kernel) rfl (show j_cnd 500 20000 499 19978 3 _ _ = true from rfl) ?_) ?_
    · refine Eq.trans (jr_s (pc2 := 1) (lv2 := [(0, .ref 20), (1, .int (-2147483641)), (2, .int a2)]) (st2 := [.int (-2147483641)]) jF_93_0 rfl rfl) ?_
      refine Eq.trans (jr_if1 jF_93_1 (by decide +kernel)) ?_
      refine Eq.trans (jr_s (pc2 := 33) (lv2 := [(0, .ref 20), (1, .int (-2147483641)), (2, .int a2)]) (st2 := [.int (-1)]) jF_93_32 rfl rfl) ?_
      exact jr_ri jF_93_33 rfl
    exact jr_ri jF_92_9 rfl
  · refine Eq.trans (jr_s (pc2 := 1) (lv2 := [(0, .ref 117), (1, .int (-2147483641)), (2, .int a2)]) (st2 := [.ref 117]) jF_266_0 rfl rfl) ?_
    refine Eq.trans (jr_s (pc2 := 2) (lv2 := [(0, .ref 117), (1, .int (-2147483641)), (2, .int a2)]) (st2 := [.int (-2147483641), .ref 117]) jF_266_1 rfl rfl) ?_
    refine Eq.trans (jr_cV (a := 117) (as := [.int (-2147483641)]) (rest := []) (v := some (.long 0)) (hp2 := jh2) (fr2 := 499) (lo2 := 19979) jF_266_2 (by decide +kernel) rfl (show j_cnd 500 20000 499 19979 2 _ _ = true from rfl) ?_) ?_
    · refine Eq.trans (jr_s (pc2 := 1) (lv2 := [(0, .ref 117), (1, .int (-2147483641))]) (st2 := [.int (-2147483641)]) jF_267_0 rfl rfl) ?_
      refine Eq.trans (jr_s (pc2 := 2) (lv2 := [(0, .ref 117), (1, .int (-2147483641))]) (st2 := [.long (-2147483641)]) jF_267_1 rfl rfl) ?_
      refine Eq.trans (jr_s (pc2 := 3) (lv2 := [(0, .ref 117), (1, .int (-2147483641))]) (st2 := [.long 0, .long (-2147483641)]) jF_267_2 rfl rfl) ?_
      refine Eq.trans (jr_s (pc2 := 6) (lv2 := [(0, .ref 117), (1, .int (-2147483641))]) (st2 := [.long 17, .long 0, .long (-2147483641)]) jF_267_3 rfl rfl) ?_
      refine Eq.trans (jr_cS (as := [.long (-2147483641), .long 0, .long 17]) (rest := []) (v := some (.int 0)) (hp2 := jh2) (fr2 := 498) (lo2 := 19954) jF_267_6 rfl (show j_cnd 499 19979 498 19954 6 _ _ = true from rfl) ?_) ?_
      · refine Eq.trans (jr_s (pc2 := 1) (lv2 := [(0, .long (-2147483641)), (2, .long 0), (4, .long 17)]) (st2 := [.long (-2147483641)]) jF_232_0 rfl rfl) ?_
        refine Eq.trans (jr_s (pc2 := 2) (lv2 := [(0, .long (-2147483641)), (2, .long 0), (4, .long 17)]) (st2 := [.long 0, .long (-2147483641)]) jF_232_1 rfl rfl) ?_
        refine Eq.trans (jr_s (pc2 := 3) (lv2 := [(0, .long (-2147483641)), (2, .long 0), (4, .long 17)]) (st2 := [.int (-1)]) jF_232_2 rfl rfl) ?_
        refine Eq.trans (jr_if1 jF_232_3 (by decide +kernel)) ?_
        refine Eq.trans (jr_s (pc2 := 18) (lv2 := [(0, .long (-2147483641)), (2, .long 0), (4, .long 17)]) (st2 := [.int 0]) jF_232_17 rfl rfl) ?_
        exact jr_ri jF_232_18 rfl
      refine Eq.trans (jr_if1 jF_267_9 (by decide +kernel)) ?_
      refine Eq.trans (jr_s (pc2 := 23) (lv2 := [(0, .ref 117), (1, .int (-2147483641))]) (st2 := [.int (-2147483641)]) jF_267_22 rfl rfl) ?_
      refine Eq.trans (jr_s (pc2 := 25) (lv2 := [(0, .ref 117), (1, .int (-2147483641))]) (st2 := [.int 20, .int (-2147483641)]) jF_267_23 rfl rfl) ?_
      refine Eq.trans (jr_s (pc2 := 26) (lv2 := [(0, .ref 117), (1, .int (-2147483641))]) (st2 := [.int 2147483635]) jF_267_25 rfl rfl) ?_
      refine Eq.trans (jr_s (pc2 := 27) (lv2 := [(0, .ref 117), (1, .int (-2147483641))]) (st2 := [.long 2147483635]) jF_267_26 rfl rfl) ?_
      refine Eq.trans (jr_s (pc2 := 28) (lv2 := [(0, .ref 117), (1, .int (-2147483641))]) (st2 := [.long 0, .long 2147483635]) jF_267_27 rfl rfl) ?_
      refine Eq.trans (jr_s (pc2 := 29) (lv2 := [(0, .ref 117), (1, .int (-2147483641))]) (st2 := [.ref 117, .long 0, .long 2147483635]) jF_267_28 rfl rfl) ?_
      refine Eq.trans (jr_gf (v := .int 0) jF_267_29 (by decide +kernel)) ?_
      refine Eq.trans (jr_s (pc2 := 33) (lv2 := [(0, .ref 117), (1, .int (-2147483641))]) (st2 := [.int 1, .int 0, .long 0, .long 2147483635]) jF_267_32 rfl rfl) ?_
      refine Eq.trans (jr_s (pc2 := 34) (lv2 := [(0, .ref 117), (1, .int (-2147483641))]) (st2 := [.int (-1), .long 0, .long 2147483635]) jF_267_33 rfl rfl) ?_
      refine Eq.trans (jr_s (pc2 := 35) (lv2 := [(0, .ref 117), (1, .int (-2147483641))]) (st2 := [.long (-1), .long 0, .long 2147483635]) jF_267_34 rfl rfl) ?_
      refine Eq.trans (jr_cS (as := [.long 2147483635, .long 0, .long (-1)]) (rest := []) (v := some (.int 0)) (hp2 := jh2) (fr2 := 498) (lo2 := 19954) jF_267_35 rfl (show j_cnd 499 19979 498 19954 6 _ _ = true from rfl) ?_) ?_
      · refine Eq.trans (jr_s (pc2 := 1) (lv2 := [(0, .long 2147483635), (2, .long 0), (4, .long (-1))]) (st2 := [.long 2147483635]) jF_232_0 rfl rfl) ?_
        refine Eq.trans (jr_s (pc2 := 2) (lv2 := [(0, .long 2147483635), (2, .long 0), (4, .long (-1))]) (st2 := [.long 0, .long 2147483635]) jF_232_1 rfl rfl) ?_
        refine Eq.trans (jr_s (pc2 := 3) (lv2 := [(0, .long 2147483635), (2, .long 0), (4, .long (-1))]) (st2 := [.int 1]) jF_232_2 rfl rfl) ?_
        refine Eq.trans (jr_if0 jF_232_3 (by decide +kernel)) ?_
        refine Eq.trans (jr_s (pc2 := 7) (lv2 := [(0, .long 2147483635), (2, .long 0), (4, .long (-1))]) (st2 := [.long 2147483635]) jF_232_6 rfl rfl) ?_
        refine Eq.trans (jr_s (pc2 := 9) (lv2 := [(0, .long 2147483635), (2, .long 0), (4, .long (-1))]) (st2 := [.long (-1), .long 2147483635]) jF_232_7 rfl rfl) ?_
        refine Eq.trans (jr_s (pc2 := 10) (lv2 := [(0, .long 2147483635), (2, .long 0), (4, .long (-1))]) (st2 := [.int 1]) jF_232_9 rfl rfl) ?_
        refine Eq.trans (jr_if1 jF_232_10 (by decide +kernel)) ?_
        refine Eq.trans (jr_s (pc2 := 18) (lv2 := [(0, .long 2147483635), (2, .long 0), (4, .long (-1))]) (st2 := [.int 0]) jF_232_17 rfl rfl) ?_
        exact jr_ri jF_232_18 rfl
      refine Eq.trans (jr_if1 jF_267_38 (by decide +kernel)) ?_
      refine Eq.trans (jr_s (pc2 := 56) (lv2 := [(0, .ref 117), (1, .int (-2147483641))]) (st2 := [.long 0]) jF_267_55 rfl rfl) ?_
      exact jr_rl jF_267_56
    refine Eq.trans (jr_s (pc2 := 6) (lv2 := [(3, .long 0), (0, .ref 117), (1, .int (-2147483641)), (2, .int a2)]) (st2 := []) jF_266_5 rfl rfl) ?_
    refine Eq.trans (jr_s (pc2 := 7) (lv2 := [(3, .long 0), (0, .ref 117), (1, .int (-2147483641)), (2, .int a2)]) (st2 := [.long 0]) jF_266_6 rfl rfl) ?_
    refine Eq.trans (jr_s (pc2 := 8) (lv2 := [(3, .long 0), (0, .ref 117), (1, .int (-2147483641)), (2, .int a2)]) (st2 := [.long 0, .long 0]) jF_266_7 rfl rfl) ?_
    refine Eq.trans (jr_s (pc2 := 9) (lv2 := [(3, .long 0), (0, .ref 117), (1, .int (-2147483641)), (2, .int a2)]) (st2 := [.int 0]) jF_266_8 rfl rfl) ?_
    refine Eq.trans (jr_if1 jF_266_9 (by decide +kernel)) ?_
    refine Eq.trans (jr_s (pc2 := 25) (lv2 := [(3, .long 0), (0, .ref 117), (1, .int (-2147483641)), (2, .int a2)]) (st2 := [.int (-1)]) jF_266_24 rfl rfl) ?_
    exact jr_ri jF_266_25 rfl
set_option maxHeartbeats 8000000 in
set_option maxRecDepth 100000 in
theorem pm_letter_L8 (a2 : Int32) (hl_a2 : (-2147483648) ≤ a2.toInt) (hh_a2 : a2.toInt ≤ 2147483647) : PM 92 266 [.int (-2147483640), .int a2] := by
  refine ⟨60000, 60000, (-1), jh2, jh2, ?_, ?_, by decide +kernel⟩
  · refine Eq.trans (jr_s (pc2 := 1) (lv2 := [(0, .ref 9), (1, .int (-2147483640)), (2, .int a2)]) (st2 := [.ref 9]) jF_92_0 rfl rfl) ?_
    refine Eq.trans (jr_gf (v := .ref 20) jF_92_1 (by decide +kernel)) ?_
    refine Eq.trans (jr_s (pc2 := 5) (lv2 := [(0, .ref 9), (1, .int (-2147483640)), (2, .int a2)]) (st2 := [.int (-2147483640), .ref 20]) jF_92_4 rfl rfl) ?_
    refine Eq.trans (jr_s (pc2 := 6) (lv2 := [(0, .ref 9), (1, .int (-2147483640)), (2, .int a2)]) (st2 := [.int a2, .int (-2147483640), .ref 20]) jF_92_5 rfl rfl) ?_
    refine Eq.trans (jr_cV (a := 20) (as := [.int (-2147483640), .int a2]) (rest := []) (v := some (.int (-1))) (hp2 := jh2) (fr2 := 499) (lo2 := 19978) jF_92_6 (by decide +kernel) rfl (show j_cnd 500 20000 499 19978 3 _ _ = true from rfl) ?_) ?_
    · refine Eq.trans (jr_s (pc2 := 1) (lv2 := [(0, .ref 20), (1, .int (-2147483640)), (2, .int a2)]) (st2 := [.int (-2147483640)]) jF_93_0 rfl rfl) ?_
      refine Eq.trans (jr_if1 jF_93_1 (by decide +kernel)) ?_
      refine Eq.trans (jr_s (pc2 := 33) (lv2 := [(0, .ref 20), (1, .int (-2147483640)), (2, .int a2)]) (st2 := [.int (-1)]) jF_93_32 rfl rfl) ?_
      exact jr_ri jF_93_33 rfl
    exact jr_ri jF_92_9 rfl
  · refine Eq.trans (jr_s (pc2 := 1) (lv2 := [(0, .ref 117), (1, .int (-2147483640)), (2, .int a2)]) (st2 := [.ref 117]) jF_266_0 rfl rfl) ?_
    refine Eq.trans (jr_s (pc2 := 2) (lv2 := [(0, .ref 117), (1, .int (-2147483640)), (2, .int a2)]) (st2 := [.int (-2147483640), .ref 117]) jF_266_1 rfl rfl) ?_
    refine Eq.trans (jr_cV (a := 117) (as := [.int (-2147483640)]) (rest := []) (v := some (.long 0)) (hp2 := jh2) (fr2 := 499) (lo2 := 19979) jF_266_2 (by decide +kernel) rfl (show j_cnd 500 20000 499 19979 2 _ _ = true from rfl) ?_) ?_
    · refine Eq.trans (jr_s (pc2 := 1) (lv2 := [(0, .ref 117), (1, .int (-2147483640))]) (st2 := [.int (-2147483640)]) jF_267_0 rfl rfl) ?_
      refine Eq.trans (jr_s (pc2 := 2) (lv2 := [(0, .ref 117), (1, .int (-2147483640))]) (st2 := [.long (-2147483640)]) jF_267_1 rfl rfl) ?_
      refine Eq.trans (jr_s (pc2 := 3) (lv2 := [(0, .ref 117), (1, .int (-2147483640))]) (st2 := [.long 0, .long (-2147483640)]) jF_267_2 rfl rfl) ?_
      refine Eq.trans (jr_s (pc2 := 6) (lv2 := [(0, .ref 117), (1, .int (-2147483640))]) (st2 := [.long 17, .long 0, .long (-2147483640)]) jF_267_3 rfl rfl) ?_
      refine Eq.trans (jr_cS (as := [.long (-2147483640), .long 0, .long 17]) (rest := []) (v := some (.int 0)) (hp2 := jh2) (fr2 := 498) (lo2 := 19954) jF_267_6 rfl (show j_cnd 499 19979 498 19954 6 _ _ = true from rfl) ?_) ?_
      · refine Eq.trans (jr_s (pc2 := 1) (lv2 := [(0, .long (-2147483640)), (2, .long 0), (4, .long 17)]) (st2 := [.long (-2147483640)]) jF_232_0 rfl rfl) ?_
        refine Eq.trans (jr_s (pc2 := 2) (lv2 := [(0, .long (-2147483640)), (2, .long 0), (4, .long 17)]) (st2 := [.long 0, .long (-2147483640)]) jF_232_1 rfl rfl) ?_
        refine Eq.trans (jr_s (pc2 := 3) (lv2 := [(0, .long (-2147483640)), (2, .long 0), (4, .long 17)]) (st2 := [.int (-1)]) jF_232_2 rfl rfl) ?_
        refine Eq.trans (jr_if1 jF_232_3 (by decide +kernel)) ?_
        refine Eq.trans (jr_s (pc2 := 18) (lv2 := [(0, .long (-2147483640)), (2, .long 0), (4, .long 17)]) (st2 := [.int 0]) jF_232_17 rfl rfl) ?_
        exact jr_ri jF_232_18 rfl
      refine Eq.trans (jr_if1 jF_267_9 (by decide +kernel)) ?_
      refine Eq.trans (jr_s (pc2 := 23) (lv2 := [(0, .ref 117), (1, .int (-2147483640))]) (st2 := [.int (-2147483640)]) jF_267_22 rfl rfl) ?_
      refine Eq.trans (jr_s (pc2 := 25) (lv2 := [(0, .ref 117), (1, .int (-2147483640))]) (st2 := [.int 20, .int (-2147483640)]) jF_267_23 rfl rfl) ?_
      refine Eq.trans (jr_s (pc2 := 26) (lv2 := [(0, .ref 117), (1, .int (-2147483640))]) (st2 := [.int 2147483636]) jF_267_25 rfl rfl) ?_
      refine Eq.trans (jr_s (pc2 := 27) (lv2 := [(0, .ref 117), (1, .int (-2147483640))]) (st2 := [.long 2147483636]) jF_267_26 rfl rfl) ?_
      refine Eq.trans (jr_s (pc2 := 28) (lv2 := [(0, .ref 117), (1, .int (-2147483640))]) (st2 := [.long 0, .long 2147483636]) jF_267_27 rfl rfl) ?_
      refine Eq.trans (jr_s (pc2 := 29) (lv2 := [(0, .ref 117), (1, .int (-2147483640))]) (st2 := [.ref 117, .long 0, .long 2147483636]) jF_267_28 rfl rfl) ?_
      refine Eq.trans (jr_gf (v := .int 0) jF_267_29 (by decide +kernel)) ?_
      refine Eq.trans (jr_s (pc2 := 33) (lv2 := [(0, .ref 117), (1, .int (-2147483640))]) (st2 := [.int 1, .int 0, .long 0, .long 2147483636]) jF_267_32 rfl rfl) ?_
      refine Eq.trans (jr_s (pc2 := 34) (lv2 := [(0, .ref 117), (1, .int (-2147483640))]) (st2 := [.int (-1), .long 0, .long 2147483636]) jF_267_33 rfl rfl) ?_
      refine Eq.trans (jr_s (pc2 := 35) (lv2 := [(0, .ref 117), (1, .int (-2147483640))]) (st2 := [.long (-1), .long 0, .long 2147483636]) jF_267_34 rfl rfl) ?_
      refine Eq.trans (jr_cS (as := [.long 2147483636, .long 0, .long (-1)]) (rest := []) (v := some (.int 0)) (hp2 := jh2) (fr2 := 498) (lo2 := 19954) jF_267_35 rfl (show j_cnd 499 19979 498 19954 6 _ _ = true from rfl) ?_) ?_
      · refine Eq.trans (jr_s (pc2 := 1) (lv2 := [(0, .long 2147483636), (2, .long 0), (4, .long (-1))]) (st2 := [.long 2147483636]) jF_232_0 rfl rfl) ?_
        refine Eq.trans (jr_s (pc2 := 2) (lv2 := [(0, .long 2147483636), (2, .long 0), (4, .long (-1))]) (st2 := [.long 0, .long 2147483636]) jF_232_1 rfl rfl) ?_
        refine Eq.trans (jr_s (pc2 := 3) (lv2 := [(0, .long 2147483636), (2, .long 0), (4, .long (-1))]) (st2 := [.int 1]) jF_232_2 rfl rfl) ?_
        refine Eq.trans (jr_if0 jF_232_3 (by decide +kernel)) ?_
        refine Eq.trans (jr_s (pc2 := 7) (lv2 := [(0, .long 2147483636), (2, .long 0), (4, .long (-1))]) (st2 := [.long 2147483636]) jF_232_6 rfl rfl) ?_
        refine Eq.trans (jr_s (pc2 := 9) (lv2 := [(0, .long 2147483636), (2, .long 0), (4, .long (-1))]) (st2 := [.long (-1), .long 2147483636]) jF_232_7 rfl rfl) ?_
        refine Eq.trans (jr_s (pc2 := 10) (lv2 := [(0, .long 2147483636), (2, .long 0), (4, .long (-1))]) (st2 := [.int 1]) jF_232_9 rfl rfl) ?_
        refine Eq.trans (jr_if1 jF_232_10 (by decide +kernel)) ?_
        refine Eq.trans (jr_s (pc2 := 18) (lv2 := [(0, .long 2147483636), (2, .long 0), (4, .long (-1))]) (st2 := [.int 0]) jF_232_17 rfl rfl) ?_
        exact jr_ri jF_232_18 rfl
      refine Eq.trans (jr_if1 jF_267_38 (by decide +kernel)) ?_
      refine Eq.trans (jr_s (pc2 := 56) (lv2 := [(0, .ref 117), (1, .int (-2147483640))]) (st2 := [.long 0]) jF_267_55 rfl rfl) ?_
      exact jr_rl jF_267_56
    refine Eq.trans (jr_s (pc2 := 6) (lv2 := [(3, .long 0), (0, .ref 117), (1, .int (-2147483640)), (2, .int a2)]) (st2 := []) jF_266_5 rfl rfl) ?_
    refine Eq.trans (jr_s (pc2 := 7) (lv2 := [(3, .long 0), (0, .ref 117), (1, .int (-2147483640)), (2, .int a2)]) (st2 := [.long 0]) jF_266_6 rfl rfl) ?_
    refine Eq.trans (jr_s (pc2 := 8) (lv2 := [(3, .long 0), (0, .ref 117), (1, .int (-2147483640)), (2, .int a2)]) (st2 := [.long 0, .long 0]) jF_266_7 rfl rfl) ?_
    refine Eq.trans (jr_s (pc2 := 9) (lv2 := [(3, .long 0), (0, .ref 117), (1, .int (-2147483640)), (2, .int a2)]) (st2 := [.int 0]) jF_266_8 rfl rfl) ?_
    refine Eq.trans (jr_if1 jF_266_9 (by decide +kernel)) ?_
    refine Eq.trans (jr_s (pc2 := 25) (lv2 := [(3, .long 0), (0, .ref 117), (1, .int (-2147483640)), (2, .int a2)]) (st2 := [.int (-1)]) jF_266_24 rfl rfl) ?_
    exact jr_ri jF_266_25 rfl
set_option maxHeartbeats 8000000 in
set_option maxRecDepth 100000 in
theorem pm_letter_L9 (a2 : Int32) (hl_a2 : (-2147483648) ≤ a2.toInt) (hh_a2 : a2.toInt ≤ 2147483647) : PM 92 266 [.int (-2147483639), .int a2] := by
  refine ⟨60000, 60000, (-1), jh2, jh2, ?_, ?_, by decide +kernel⟩
  · refine Eq.trans (jr_s (pc2 := 1) (lv2 := [(0, .ref 9), (1, .int (-2147483639)), (2, .int a2)]) (st2 := [.ref 9]) jF_92_0 rfl rfl) ?_
    refine Eq.trans (jr_gf (v := .ref 20) jF_92_1 (by decide +kernel)) ?_
    refine Eq.trans (jr_s (pc2 := 5) (lv2 := [(0, .ref 9), (1, .int (-2147483639)), (2, .int a2)]) (st2 := [.int (-2147483639), .ref 20]) jF_92_4 rfl rfl) ?_
    refine Eq.trans (jr_s (pc2 := 6) (lv2 := [(0, .ref 9), (1, .int (-2147483639)), (2, .int a2)]) (st2 := [.int a2, .int (-2147483639), .ref 20]) jF_92_5 rfl rfl) ?_
    refine Eq.trans (jr_cV (a := 20) (as := [.int (-2147483639), .int a2]) (rest := []) (v := some (.int (-1))) (hp2 := jh2) (fr2 := 499) (lo2 := 19978) jF_92_6 (by decide +kernel) rfl (show j_cnd 500 20000 499 19978 3 _ _ = true from rfl) ?_) ?_
    · refine Eq.trans (jr_s (pc2 := 1) (lv2 := [(0, .ref 20), (1, .int (-2147483639)), (2, .int a2)]) (st2 := [.int (-2147483639)]) jF_93_0 rfl rfl) ?_
      refine Eq.trans (jr_if1 jF_93_1 (by decide +kernel)) ?_
      refine Eq.trans (jr_s (pc2 := 33) (lv2 := [(0, .ref 20), (1, .int (-2147483639)), (2, .int a2)]) (st2 := [.int (-1)]) jF_93_32 rfl rfl) ?_
      exact jr_ri jF_93_33 rfl
    exact jr_ri jF_92_9 rfl
  · refine Eq.trans (jr_s (pc2 := 1) (lv2 := [(0, .ref 117), (1, .int (-2147483639)), (2, .int a2)]) (st2 := [.ref 117]) jF_266_0 rfl rfl) ?_
    refine Eq.trans (jr_s (pc2 := 2) (lv2 := [(0, .ref 117), (1, .int (-2147483639)), (2, .int a2)]) (st2 := [.int (-2147483639), .ref 117]) jF_266_1 rfl rfl) ?_
    refine Eq.trans (jr_cV (a := 117) (as := [.int (-2147483639)]) (rest := []) (v := some (.long 0)) (hp2 := jh2) (fr2 := 499) (lo2 := 19979) jF_266_2 (by decide +kernel) rfl (show j_cnd 500 20000 499 19979 2 _ _ = true from rfl) ?_) ?_
    · refine Eq.trans (jr_s (pc2 := 1) (lv2 := [(0, .ref 117), (1, .int (-2147483639))]) (st2 := [.int (-2147483639)]) jF_267_0 rfl rfl) ?_
      refine Eq.trans (jr_s (pc2 := 2) (lv2 := [(0, .ref 117), (1, .int (-2147483639))]) (st2 := [.long (-2147483639)]) jF_267_1 rfl rfl) ?_
      refine Eq.trans (jr_s (pc2 := 3) (lv2 := [(0, .ref 117), (1, .int (-2147483639))]) (st2 := [.long 0, .long (-2147483639)]) jF_267_2 rfl rfl) ?_
      refine Eq.trans (jr_s (pc2 := 6) (lv2 := [(0, .ref 117), (1, .int (-2147483639))]) (st2 := [.long 17, .long 0, .long (-2147483639)]) jF_267_3 rfl rfl) ?_
      refine Eq.trans (jr_cS (as := [.long (-2147483639), .long 0, .long 17]) (rest := []) (v := some (.int 0)) (hp2 := jh2) (fr2 := 498) (lo2 := 19954) jF_267_6 rfl (show j_cnd 499 19979 498 19954 6 _ _ = true from rfl) ?_) ?_
      · refine Eq.trans (jr_s (pc2 := 1) (lv2 := [(0, .long (-2147483639)), (2, .long 0), (4, .long 17)]) (st2 := [.long (-2147483639)]) jF_232_0 rfl rfl) ?_
        refine Eq.trans (jr_s (pc2 := 2) (lv2 := [(0, .long (-2147483639)), (2, .long 0), (4, .long 17)]) (st2 := [.long 0, .long (-2147483639)]) jF_232_1 rfl rfl) ?_
        refine Eq.trans (jr_s (pc2 := 3) (lv2 := [(0, .long (-2147483639)), (2, .long 0), (4, .long 17)]) (st2 := [.int (-1)]) jF_232_2 rfl rfl) ?_
        refine Eq.trans (jr_if1 jF_232_3 (by decide +kernel)) ?_
        refine Eq.trans (jr_s (pc2 := 18) (lv2 := [(0, .long (-2147483639)), (2, .long 0), (4, .long 17)]) (st2 := [.int 0]) jF_232_17 rfl rfl) ?_
        exact jr_ri jF_232_18 rfl
      refine Eq.trans (jr_if1 jF_267_9 (by decide +kernel)) ?_
      refine Eq.trans (jr_s (pc2 := 23) (lv2 := [(0, .ref 117), (1, .int (-2147483639))]) (st2 := [.int (-2147483639)]) jF_267_22 rfl rfl) ?_
      refine Eq.trans (jr_s (pc2 := 25) (lv2 := [(0, .ref 117), (1, .int (-2147483639))]) (st2 := [.int 20, .int (-2147483639)]) jF_267_23 rfl rfl) ?_
      refine Eq.trans (jr_s (pc2 := 26) (lv2 := [(0, .ref 117), (1, .int (-2147483639))]) (st2 := [.int 2147483637]) jF_267_25 rfl rfl) ?_
      refine Eq.trans (jr_s (pc2 := 27) (lv2 := [(0, .ref 117), (1, .int (-2147483639))]) (st2 := [.long 2147483637]) jF_267_26 rfl rfl) ?_
      refine Eq.trans (jr_s (pc2 := 28) (lv2 := [(0, .ref 117), (1, .int (-2147483639))]) (st2 := [.long 0, .long 2147483637]) jF_267_27 rfl rfl) ?_
      refine Eq.trans (jr_s (pc2 := 29) (lv2 := [(0, .ref 117), (1, .int (-2147483639))]) (st2 := [.ref 117, .long 0, .long 2147483637]) jF_267_28 rfl rfl) ?_
      refine Eq.trans (jr_gf (v := .int 0) jF_267_29 (by decide +kernel)) ?_
      refine Eq.trans (jr_s (pc2 := 33) (lv2 := [(0, .ref 117), (1, .int (-2147483639))]) (st2 := [.int 1, .int 0, .long 0, .long 2147483637]) jF_267_32 rfl rfl) ?_
      refine Eq.trans (jr_s (pc2 := 34) (lv2 := [(0, .ref 117), (1, .int (-2147483639))]) (st2 := [.int (-1), .long 0, .long 2147483637]) jF_267_33 rfl rfl) ?_
      refine Eq.trans (jr_s (pc2 := 35) (lv2 := [(0, .ref 117), (1, .int (-2147483639))]) (st2 := [.long (-1), .long 0, .long 2147483637]) jF_267_34 rfl rfl) ?_
      refine Eq.trans (jr_cS (as := [.long 2147483637, .long 0, .long (-1)]) (rest := []) (v := some (.int 0)) (hp2 := jh2) (fr2 := 498) (lo2 := 19954) jF_267_35 rfl (show j_cnd 499 19979 498 19954 6 _ _ = true from rfl) ?_) ?_
      · refine Eq.trans (jr_s (pc2 := 1) (lv2 := [(0, .long 2147483637), (2, .long 0), (4, .long (-1))]) (st2 := [.long 2147483637]) jF_232_0 rfl rfl) ?_
        refine Eq.trans (jr_s (pc2 := 2) (lv2 := [(0, .long 2147483637), (2, .long 0), (4, .long (-1))]) (st2 := [.long 0, .long 2147483637]) jF_232_1 rfl rfl) ?_
        refine Eq.trans (jr_s (pc2 := 3) (lv2 := [(0, .long 2147483637), (2, .long 0), (4, .long (-1))]) (st2 := [.int 1]) jF_232_2 rfl rfl) ?_
        refine Eq.trans (jr_if0 jF_232_3 (by decide +kernel)) ?_
        refine Eq.trans (jr_s (pc2 := 7) (lv2 := [(0, .long 2147483637), (2, .long 0), (4, .long (-1))]) (st2 := [.long 2147483637]) jF_232_6 rfl rfl) ?_
        refine Eq.trans (jr_s (pc2 := 9) (lv2 := [(0, .long 2147483637), (2, .long 0), (4, .long (-1))]) (st2 := [.long (-1), .long 2147483637]) jF_232_7 rfl rfl) ?_
        refine Eq.trans (jr_s (pc2 := 10) (lv2 := [(0, .long 2147483637), (2, .long 0), (4, .long (-1))]) (st2 := [.int 1]) jF_232_9 rfl rfl) ?_
        refine Eq.trans (jr_if1 jF_232_10 (by decide +kernel)) ?_
        refine Eq.trans (jr_s (pc2 := 18) (lv2 := [(0, .long 2147483637), (2, .long 0), (4, .long (-1))]) (st2 := [.int 0]) jF_232_17 rfl rfl) ?_
        exact jr_ri jF_232_18 rfl
      refine Eq.trans (jr_if1 jF_267_38 (by decide +kernel)) ?_
      refine Eq.trans (jr_s (pc2 := 56) (lv2 := [(0, .ref 117), (1, .int (-2147483639))]) (st2 := [.long 0]) jF_267_55 rfl rfl) ?_
      exact jr_rl jF_267_56
    refine Eq.trans (jr_s (pc2 := 6) (lv2 := [(3, .long 0), (0, .ref 117), (1, .int (-2147483639)), (2, .int a2)]) (st2 := []) jF_266_5 rfl rfl) ?_
    refine Eq.trans (jr_s (pc2 := 7) (lv2 := [(3, .long 0), (0, .ref 117), (1, .int (-2147483639)), (2, .int a2)]) (st2 := [.long 0]) jF_266_6 rfl rfl) ?_
    refine Eq.trans (jr_s (pc2 := 8) (lv2 := [(3, .long 0), (0, .ref 117), (1, .int (-2147483639)), (2, .int a2)]) (st2 := [.long 0, .long 0]) jF_266_7 rfl rfl) ?_
    refine Eq.trans (jr_s (pc2 := 9) (lv2 := [(3, .long 0), (0, .ref 117), (1, .int (-2147483639)), (2, .int a2)]) (st2 := [.int 0]) jF_266_8 rfl rfl) ?_
    refine Eq.trans (jr_if1 jF_266_9 (by decide +kernel)) ?_
    refine Eq.trans (jr_s (pc2 := 25) (lv2 := [(3, .long 0), (0, .ref 117), (1, .int (-2147483639)), (2, .int a2)]) (st2 := [.int (-1)]) jF_266_24 rfl rfl) ?_
    exact jr_ri jF_266_25 rfl
set_option maxHeartbeats 8000000 in
set_option maxRecDepth 100000 in
theorem pm_letter_L10 (a2 : Int32) (hl_a2 : (-2147483648) ≤ a2.toInt) (hh_a2 : a2.toInt ≤ 2147483647) : PM 92 266 [.int (-2147483638), .int a2] := by
  refine ⟨60000, 60000, (-1), jh2, jh2, ?_, ?_, by decide +kernel⟩
  · refine Eq.trans (jr_s (pc2 := 1) (lv2 := [(0, .ref 9), (1, .int (-2147483638)), (2, .int a2)]) (st2 := [.ref 9]) jF_92_0 rfl rfl) ?_
    refine Eq.trans (jr_gf (v := .ref 20) jF_92_1 (by decide +kernel)) ?_
    refine Eq.trans (jr_s (pc2 := 5) (lv2 := [(0, .ref 9), (1, .int (-2147483638)), (2, .int a2)]) (st2 := [.int (-2147483638), .ref 20]) jF_92_4 rfl rfl) ?_
    refine Eq.trans (jr_s (pc2 := 6) (lv2 := [(0, .ref 9), (1, .int (-2147483638)), (2, .int a2)]) (st2 := [.int a2, .int (-2147483638), .ref 20]) jF_92_5 rfl rfl) ?_
    refine Eq.trans (jr_cV (a := 20) (as := [.int (-2147483638), .int a2]) (rest := []) (v := some (.int (-1))) (hp2 := jh2) (fr2 := 499) (lo2 := 19978) jF_92_6 (by decide +kernel) rfl (show j_cnd 500 20000 499 19978 3 _ _ = true from rfl) ?_) ?_
    · refine Eq.trans (jr_s (pc2 := 1) (lv2 := [(0, .ref 20), (1, .int (-2147483638)), (2, .int a2)]) (st2 := [.int (-2147483638)]) jF_93_0 rfl rfl) ?_
      refine Eq.trans (jr_if1 jF_93_1 (by decide +kernel)) ?_
      refine Eq.trans (jr_s (pc2 := 33) (lv2 := [(0, .ref 20), (1, .int (-2147483638)), (2, .int a2)]) (st2 := [.int (-1)]) jF_93_32 rfl rfl) ?_
      exact jr_ri jF_93_33 rfl
    exact jr_ri jF_92_9 rfl
  · refine Eq.trans (jr_s (pc2 := 1) (lv2 := [(0, .ref 117), (1, .int (-2147483638)), (2, .int a2)]) (st2 := [.ref 117]) jF_266_0 rfl rfl) ?_
    refine Eq.trans (jr_s (pc2 := 2) (lv2 := [(0, .ref 117), (1, .int (-2147483638)), (2, .int a2)]) (st2 := [.int (-2147483638), .ref 117]) jF_266_1 rfl rfl) ?_
    refine Eq.trans (jr_cV (a := 117) (as := [.int (-2147483638)]) (rest := []) (v := some (.long 0)) (hp2 := jh2) (fr2 := 499) (lo2 := 19979) jF_266_2 (by decide +kernel) rfl (show j_cnd 500 20000 499 19979 2 _ _ = true from rfl) ?_) ?_
    · refine Eq.trans (jr_s (pc2 := 1) (lv2 := [(0, .ref 117), (1, .int (-2147483638))]) (st2 := [.int (-2147483638)]) jF_267_0 rfl rfl) ?_
      refine Eq.trans (jr_s (pc2 := 2) (lv2 := [(0, .ref 117), (1, .int (-2147483638))]) (st2 := [.long (-2147483638)]) jF_267_1 rfl rfl) ?_
      refine Eq.trans (jr_s (pc2 := 3) (lv2 := [(0, .ref 117), (1, .int (-2147483638))]) (st2 := [.long 0, .long (-2147483638)]) jF_267_2 rfl rfl) ?_
      refine Eq.trans (jr_s (pc2 := 6) (lv2 := [(0, .ref 117), (1, .int (-2147483638))]) (st2 := [.long 17, .long 0, .long (-2147483638)]) jF_267_3 rfl rfl) ?_
      refine Eq.trans (jr_cS (as := [.long (-2147483638), .long 0, .long 17]) (rest := []) (v := some (.int 0)) (hp2 := jh2) (fr2 := 498) (lo2 := 19954) jF_267_6 rfl (show j_cnd 499 19979 498 19954 6 _ _ = true from rfl) ?_) ?_
      · refine Eq.trans (jr_s (pc2 := 1) (lv2 := [(0, .long (-2147483638)), (2, .long 0), (4, .long 17)]) (st2 := [.long (-2147483638)]) jF_232_0 rfl rfl) ?_
        refine Eq.trans (jr_s (pc2 := 2) (lv2 := [(0, .long (-2147483638)), (2, .long 0), (4, .long 17)]) (st2 := [.long 0, .long (-2147483638)]) jF_232_1 rfl rfl) ?_
        refine Eq.trans (jr_s (pc2 := 3) (lv2 := [(0, .long (-2147483638)), (2, .long 0), (4, .long 17)]) (st2 := [.int (-1)]) jF_232_2 rfl rfl) ?_
        refine Eq.trans (jr_if1 jF_232_3 (by decide +kernel)) ?_
        refine Eq.trans (jr_s (pc2 := 18) (lv2 := [(0, .long (-2147483638)), (2, .long 0), (4, .long 17)]) (st2 := [.int 0]) jF_232_17 rfl rfl) ?_
        exact jr_ri jF_232_18 rfl
      refine Eq.trans (jr_if1 jF_267_9 (by decide +kernel)) ?_
      refine Eq.trans (jr_s (pc2 := 23) (lv2 := [(0, .ref 117), (1, .int (-2147483638))]) (st2 := [.int (-2147483638)]) jF_267_22 rfl rfl) ?_
      refine Eq.trans (jr_s (pc2 := 25) (lv2 := [(0, .ref 117), (1, .int (-2147483638))]) (st2 := [.int 20, .int (-2147483638)]) jF_267_23 rfl rfl) ?_
      refine Eq.trans (jr_s (pc2 := 26) (lv2 := [(0, .ref 117), (1, .int (-2147483638))]) (st2 := [.int 2147483638]) jF_267_25 rfl rfl) ?_
      refine Eq.trans (jr_s (pc2 := 27) (lv2 := [(0, .ref 117), (1, .int (-2147483638))]) (st2 := [.long 2147483638]) jF_267_26 rfl rfl) ?_
      refine Eq.trans (jr_s (pc2 := 28) (lv2 := [(0, .ref 117), (1, .int (-2147483638))]) (st2 := [.long 0, .long 2147483638]) jF_267_27 rfl rfl) ?_
      refine Eq.trans (jr_s (pc2 := 29) (lv2 := [(0, .ref 117), (1, .int (-2147483638))]) (st2 := [.ref 117, .long 0, .long 2147483638]) jF_267_28 rfl rfl) ?_
      refine Eq.trans (jr_gf (v := .int 0) jF_267_29 (by decide +kernel)) ?_
      refine Eq.trans (jr_s (pc2 := 33) (lv2 := [(0, .ref 117), (1, .int (-2147483638))]) (st2 := [.int 1, .int 0, .long 0, .long 2147483638]) jF_267_32 rfl rfl) ?_
      refine Eq.trans (jr_s (pc2 := 34) (lv2 := [(0, .ref 117), (1, .int (-2147483638))]) (st2 := [.int (-1), .long 0, .long 2147483638]) jF_267_33 rfl rfl) ?_
      refine Eq.trans (jr_s (pc2 := 35) (lv2 := [(0, .ref 117), (1, .int (-2147483638))]) (st2 := [.long (-1), .long 0, .long 2147483638]) jF_267_34 rfl rfl) ?_
      refine Eq.trans (jr_cS (as := [.long 2147483638, .long 0, .long (-1)]) (rest := []) (v := some (.int 0)) (hp2 := jh2) (fr2 := 498) (lo2 := 19954) jF_267_35 rfl (show j_cnd 499 19979 498 19954 6 _ _ = true from rfl) ?_) ?_
      · refine Eq.trans (jr_s (pc2 := 1) (lv2 := [(0, .long 2147483638), (2, .long 0), (4, .long (-1))]) (st2 := [.long 2147483638]) jF_232_0 rfl rfl) ?_
        refine Eq.trans (jr_s (pc2 := 2) (lv2 := [(0, .long 2147483638), (2, .long 0), (4, .long (-1))]) (st2 := [.long 0, .long 2147483638]) jF_232_1 rfl rfl) ?_
        refine Eq.trans (jr_s (pc2 := 3) (lv2 := [(0, .long 2147483638), (2, .long 0), (4, .long (-1))]) (st2 := [.int 1]) jF_232_2 rfl rfl) ?_
        refine Eq.trans (jr_if0 jF_232_3 (by decide +kernel)) ?_
        refine Eq.trans (jr_s (pc2 := 7) (lv2 := [(0, .long 2147483638), (2, .long 0), (4, .long (-1))]) (st2 := [.long 2147483638]) jF_232_6 rfl rfl) ?_
        refine Eq.trans (jr_s (pc2 := 9) (lv2 := [(0, .long 2147483638), (2, .long 0), (4, .long (-1))]) (st2 := [.long (-1), .long 2147483638]) jF_232_7 rfl rfl) ?_
        refine Eq.trans (jr_s (pc2 := 10) (lv2 := [(0, .long 2147483638), (2, .long 0), (4, .long (-1))]) (st2 := [.int 1]) jF_232_9 rfl rfl) ?_
        refine Eq.trans (jr_if1 jF_232_10 (by decide +kernel)) ?_
        refine Eq.trans (jr_s (pc2 := 18) (lv2 := [(0, .long 2147483638), (2, .long 0), (4, .long (-1))]) (st2 := [.int 0]) jF_232_17 rfl rfl) ?_
        exact jr_ri jF_232_18 rfl
      refine Eq.trans (jr_if1 jF_267_38 (by decide +kernel)) ?_
      refine Eq.trans (jr_s (pc2 := 56) (lv2 := [(0, .ref 117), (1, .int (-2147483638))]) (st2 := [.long 0]) jF_267_55 rfl rfl) ?_
      exact jr_rl jF_267_56
    refine Eq.trans (jr_s (pc2 := 6) (lv2 := [(3, .long 0), (0, .ref 117), (1, .int (-2147483638)), (2, .int a2)]) (st2 := []) jF_266_5 rfl rfl) ?_
    refine Eq.trans (jr_s (pc2 := 7) (lv2 := [(3, .long 0), (0, .ref 117), (1, .int (-2147483638)), (2, .int a2)]) (st2 := [.long 0]) jF_266_6 rfl rfl) ?_
    refine Eq.trans (jr_s (pc2 := 8) (lv2 := [(3, .long 0), (0, .ref 117), (1, .int (-2147483638)), (2, .int a2)]) (st2 := [.long 0, .long 0]) jF_266_7 rfl rfl) ?_
    refine Eq.trans (jr_s (pc2 := 9) (lv2 := [(3, .long 0), (0, .ref 117), (1, .int (-2147483638)), (2, .int a2)]) (st2 := [.int 0]) jF_266_8 rfl rfl) ?_
    refine Eq.trans (jr_if1 jF_266_9 (by decide +kernel)) ?_
    refine Eq.trans (jr_s (pc2 := 25) (lv2 := [(3, .long 0), (0, .ref 117), (1, .int (-2147483638)), (2, .int a2)]) (st2 := [.int (-1)]) jF_266_24 rfl rfl) ?_
    exact jr_ri jF_266_25 rfl
set_option maxHeartbeats 8000000 in
set_option maxRecDepth 100000 in
theorem pm_letter_L11 (a2 : Int32) (hl_a2 : (-2147483648) ≤ a2.toInt) (hh_a2 : a2.toInt ≤ 2147483647) : PM 92 266 [.int (-2147483637), .int a2] := by
  refine ⟨60000, 60000, (-1), jh2, jh2, ?_, ?_, by decide +kernel⟩
  · refine Eq.trans (jr_s (pc2 := 1) (lv2 := [(0, .ref 9), (1, .int (-2147483637)), (2, .int a2)]) (st2 := [.ref 9]) jF_92_0 rfl rfl) ?_
    refine Eq.trans (jr_gf (v := .ref 20) jF_92_1 (by decide +kernel)) ?_
    refine Eq.trans (jr_s (pc2 := 5) (lv2 := [(0, .ref 9), (1, .int (-2147483637)), (2, .int a2)]) (st2 := [.int (-2147483637), .ref 20]) jF_92_4 rfl rfl) ?_
    refine Eq.trans (jr_s (pc2 := 6) (lv2 := [(0, .ref 9), (1, .int (-2147483637)), (2, .int a2)]) (st2 := [.int a2, .int (-2147483637), .ref 20]) jF_92_5 rfl rfl) ?_
    refine Eq.trans (jr_cV (a := 20) (as := [.int (-2147483637), .int a2]) (rest := []) (v := some (.int (-1))) (hp2 := jh2) (fr2 := 499) (lo2 := 19978) jF_92_6 (by decide +kernel) rfl (show j_cnd 500 20000 499 19978 3 _ _ = true from rfl) ?_) ?_
    · refine Eq.trans (jr_s (pc2 := 1) (lv2 := [(0, .ref 20), (1, .int (-2147483637)), (2, .int a2)]) (st2 := [.int (-2147483637)]) jF_93_0 rfl rfl) ?_
      refine Eq.trans (jr_if1 jF_93_1 (by decide +kernel)) ?_
      refine Eq.trans (jr_s (pc2 := 33) (lv2 := [(0, .ref 20), (1, .int (-2147483637)), (2, .int a2)]) (st2 := [.int (-1)]) jF_93_32 rfl rfl) ?_
      exact jr_ri jF_93_33 rfl
    exact jr_ri jF_92_9 rfl
  · refine Eq.trans (jr_s (pc2 := 1) (lv2 := [(0, .ref 117), (1, .int (-2147483637)), (2, .int a2)]) (st2 := [.ref 117]) jF_266_0 rfl rfl) ?_
    refine Eq.trans (jr_s (pc2 := 2) (lv2 := [(0, .ref 117), (1, .int (-2147483637)), (2, .int a2)]) (st2 := [.int (-2147483637), .ref 117]) jF_266_1 rfl rfl) ?_
    refine Eq.trans (jr_cV (a := 117) (as := [.int (-2147483637)]) (rest := []) (v := some (.long 0)) (hp2 := jh2) (fr2 := 499) (lo2 := 19979) jF_266_2 (by decide +kernel) rfl (show j_cnd 500 20000 499 19979 2 _ _ = true from rfl) ?_) ?_
    · refine Eq.trans (jr_s (pc2 := 1) (lv2 := [(0, .ref 117), (1, .int (-2147483637))]) (st2 := [.int (-2147483637)]) jF_267_0 rfl rfl) ?_
      refine Eq.trans (jr_s (pc2 := 2) (lv2 := [(0, .ref 117), (1, .int (-2147483637))]) (st2 := [.long (-2147483637)]) jF_267_1 rfl rfl) ?_
      refine Eq.trans (jr_s (pc2 := 3) (lv2 := [(0, .ref 117), (1, .int (-2147483637))]) (st2 := [.long 0, .long (-2147483637)]) jF_267_2 rfl rfl) ?_
      refine Eq.trans (jr_s (pc2 := 6) (lv2 := [(0, .ref 117), (1, .int (-2147483637))]) (st2 := [.long 17, .long 0, .long (-2147483637)]) jF_267_3 rfl rfl) ?_
      refine Eq.trans (jr_cS (as := [.long (-2147483637), .long 0, .long 17]) (rest := []) (v := some (.int 0)) (hp2 := jh2) (fr2 := 498) (lo2 := 19954) jF_267_6 rfl (show j_cnd 499 19979 498 19954 6 _ _ = true from rfl) ?_) ?_
      · refine Eq.trans (jr_s (pc2 := 1) (lv2 := [(0, .long (-2147483637)), (2, .long 0), (4, .long 17)]) (st2 := [.long (-2147483637)]) jF_232_0 rfl rfl) ?_
        refine Eq.trans (jr_s (pc2 := 2) (lv2 := [(0, .long (-2147483637)), (2, .long 0), (4, .long 17)]) (st2 := [.long 0, .long (-2147483637)]) jF_232_1 rfl rfl) ?_
        refine Eq.trans (jr_s (pc2 := 3) (lv2 := [(0, .long (-2147483637)), (2, .long 0), (4, .long 17)]) (st2 := [.int (-1)]) jF_232_2 rfl rfl) ?_
        refine Eq.trans (jr_if1 jF_232_3 (by decide +kernel)) ?_
        refine Eq.trans (jr_s (pc2 := 18) (lv2 := [(0, .long (-2147483637)), (2, .long 0), (4, .long 17)]) (st2 := [.int 0]) jF_232_17 rfl rfl) ?_
        exact jr_ri jF_232_18 rfl
      refine Eq.trans (jr_if1 jF_267_9 (by decide +kernel)) ?_
      refine Eq.trans (jr_s (pc2 := 23) (lv2 := [(0, .ref 117), (1, .int (-2147483637))]) (st2 := [.int (-2147483637)]) jF_267_22 rfl rfl) ?_
      refine Eq.trans (jr_s (pc2 := 25) (lv2 := [(0, .ref 117), (1, .int (-2147483637))]) (st2 := [.int 20, .int (-2147483637)]) jF_267_23 rfl rfl) ?_
      refine Eq.trans (jr_s (pc2 := 26) (lv2 := [(0, .ref 117), (1, .int (-2147483637))]) (st2 := [.int 2147483639]) jF_267_25 rfl rfl) ?_
      refine Eq.trans (jr_s (pc2 := 27) (lv2 := [(0, .ref 117), (1, .int (-2147483637))]) (st2 := [.long 2147483639]) jF_267_26 rfl rfl) ?_
      refine Eq.trans (jr_s (pc2 := 28) (lv2 := [(0, .ref 117), (1, .int (-2147483637))]) (st2 := [.long 0, .long 2147483639]) jF_267_27 rfl rfl) ?_
      refine Eq.trans (jr_s (pc2 := 29) (lv2 := [(0, .ref 117), (1, .int (-2147483637))]) (st2 := [.ref 117, .long 0, .long 2147483639]) jF_267_28 rfl rfl) ?_
      refine Eq.trans (jr_gf (v := .int 0) jF_267_29 (by decide +kernel)) ?_
      refine Eq.trans (jr_s (pc2 := 33) (lv2 := [(0, .ref 117), (1, .int (-2147483637))]) (st2 := [.int 1, .int 0, .long 0, .long 2147483639]) jF_267_32 rfl rfl) ?_
      refine Eq.trans (jr_s (pc2 := 34) (lv2 := [(0, .ref 117), (1, .int (-2147483637))]) (st2 := [.int (-1), .long 0, .long 2147483639]) jF_267_33 rfl rfl) ?_
      refine Eq.trans (jr_s (pc2 := 35) (lv2 := [(0, .ref 117), (1, .int (-2147483637))]) (st2 := [.long (-1), .long 0, .long 2147483639]) jF_267_34 rfl rfl) ?_
      refine Eq.trans (jr_cS (as := [.long 2147483639, .long 0, .long (-1)]) (rest := []) (v := some (.int 0)) (hp2 := jh2) (fr2 := 498) (lo2 := 19954) jF_267_35 rfl (show j_cnd 499 19979 498 19954 6 _ _ = true from rfl) ?_) ?_
      · refine Eq.trans (jr_s (pc2 := 1) (lv2 := [(0, .long 2147483639), (2, .long 0), (4, .long (-1))]) (st2 := [.long 2147483639]) jF_232_0 rfl rfl) ?_
        refine Eq.trans (jr_s (pc2 := 2) (lv2 := [(0, .long 2147483639), (2, .long 0), (4, .long (-1))]) (st2 := [.long 0, .long 2147483639]) jF_232_1 rfl rfl) ?_
        refine Eq.trans (jr_s (pc2 := 3) (lv2 := [(0, .long 2147483639), (2, .long 0), (4, .long (-1))]) (st2 := [.int 1]) jF_232_2 rfl rfl) ?_
        refine Eq.trans (jr_if0 jF_232_3 (by decide +kernel)) ?_
        refine Eq.trans (jr_s (pc2 := 7) (lv2 := [(0, .long 2147483639), (2, .long 0), (4, .long (-1))]) (st2 := [.long 2147483639]) jF_232_6 rfl rfl) ?_
        refine Eq.trans (jr_s (pc2 := 9) (lv2 := [(0, .long 2147483639), (2, .long 0), (4, .long (-1))]) (st2 := [.long (-1), .long 2147483639]) jF_232_7 rfl rfl) ?_
        refine Eq.trans (jr_s (pc2 := 10) (lv2 := [(0, .long 2147483639), (2, .long 0), (4, .long (-1))]) (st2 := [.int 1]) jF_232_9 rfl rfl) ?_
        refine Eq.trans (jr_if1 jF_232_10 (by decide +kernel)) ?_
        refine Eq.trans (jr_s (pc2 := 18) (lv2 := [(0, .long 2147483639), (2, .long 0), (4, .long (-1))]) (st2 := [.int 0]) jF_232_17 rfl rfl) ?_
        exact jr_ri jF_232_18 rfl
      refine Eq.trans (jr_if1 jF_267_38 (by decide +kernel)) ?_
      refine Eq.trans (jr_s (pc2 := 56) (lv2 := [(0, .ref 117), (1, .int (-2147483637))]) (st2 := [.long 0]) jF_267_55 rfl rfl) ?_
      exact jr_rl jF_267_56
    refine Eq.trans (jr_s (pc2 := 6) (lv2 := [(3, .long 0), (0, .ref 117), (1, .int (-2147483637)), (2, .int a2)]) (st2 := []) jF_266_5 rfl rfl) ?_
    refine Eq.trans (jr_s (pc2 := 7) (lv2 := [(3, .long 0), (0, .ref 117), (1, .int (-2147483637)), (2, .int a2)]) (st2 := [.long 0]) jF_266_6 rfl rfl) ?_
    refine Eq.trans (jr_s (pc2 := 8) (lv2 := [(3, .long 0), (0, .ref 117), (1, .int (-2147483637)), (2, .int a2)]) (st2 := [.long 0, .long 0]) jF_266_7 rfl rfl) ?_
    refine Eq.trans (jr_s (pc2 := 9) (lv2 := [(3, .long 0), (0, .ref 117), (1, .int (-2147483637)), (2, .int a2)]) (st2 := [.int 0]) jF_266_8 rfl rfl) ?_
    refine Eq.trans (jr_if1 jF_266_9 (by decide +kernel)) ?_
    refine Eq.trans (jr_s (pc2 := 25) (lv2 := [(3, .long 0), (0, .ref 117), (1, .int (-2147483637)), (2, .int a2)]) (st2 := [.int (-1)]) jF_266_24 rfl rfl) ?_
    exact jr_ri jF_266_25 rfl
set_option maxHeartbeats 8000000 in
set_option maxRecDepth 100000 in
theorem pm_letter_L12 (a2 : Int32) (hl_a2 : (-2147483648) ≤ a2.toInt) (hh_a2 : a2.toInt ≤ 2147483647) : PM 92 266 [.int (-2147483636), .int a2] := by
  refine ⟨60000, 60000, (-1), jh2, jh2, ?_, ?_, by decide +kernel⟩
  · refine Eq.trans (jr_s (pc2 := 1) (lv2 := [(0, .ref 9), (1, .int (-2147483636)), (2, .int a2)]) (st2 := [.ref 9]) jF_92_0 rfl rfl) ?_
    refine Eq.trans (jr_gf (v := .ref 20) jF_92_1 (by decide +kernel)) ?_
    refine Eq.trans (jr_s (pc2 := 5) (lv2 := [(0, .ref 9), (1, .int (-2147483636)), (2, .int a2)]) (st2 := [.int (-2147483636), .ref 20]) jF_92_4 rfl rfl) ?_
    refine Eq.trans (jr_s (pc2 := 6) (lv2 := [(0, .ref 9), (1, .int (-2147483636)), (2, .int a2)]) (st2 := [.int a2, .int (-2147483636), .ref 20]) jF_92_5 rfl rfl) ?_
    refine Eq.trans (jr_cV (a := 20) (as := [.int (-2147483636), .int a2]) (rest := []) (v := some (.int (-1))) (hp2 := jh2) (fr2 := 499) (lo2 := 19978) jF_92_6 (by decide +kernel) rfl (show j_cnd 500 20000 499 19978 3 _ _ = true from rfl) ?_) ?_
    · refine Eq.trans (jr_s (pc2 := 1) (lv2 := [(0, .ref 20), (1, .int (-2147483636)), (2, .int a2)]) (st2 := [.int (-2147483636)]) jF_93_0 rfl rfl) ?_
      refine Eq.trans (jr_if1 jF_93_1 (by decide +kernel)) ?_
      refine Eq.trans (jr_s (pc2 := 33) (lv2 := [(0, .ref 20), (1, .int (-2147483636)), (2, .int a2)]) (st2 := [.int (-1)]) jF_93_32 rfl rfl) ?_
      exact jr_ri jF_93_33 rfl
    exact jr_ri jF_92_9 rfl
  · refine Eq.trans (jr_s (pc2 := 1) (lv2 := [(0, .ref 117), (1, .int (-2147483636)), (2, .int a2)]) (st2 := [.ref 117]) jF_266_0 rfl rfl) ?_
    refine Eq.trans (jr_s (pc2 := 2) (lv2 := [(0, .ref 117), (1, .int (-2147483636)), (2, .int a2)]) (st2 := [.int (-2147483636), .ref 117]) jF_266_1 rfl rfl) ?_
    refine Eq.trans (jr_cV (a := 117) (as := [.int (-2147483636)]) (rest := []) (v := some (.long 0)) (hp2 := jh2) (fr2 := 499) (lo2 := 19979) jF_266_2 (by decide +kernel) rfl (show j_cnd 500 20000 499 19979 2 _ _ = true from rfl) ?_) ?_
    · refine Eq.trans (jr_s (pc2 := 1) (lv2 := [(0, .ref 117), (1, .int (-2147483636))]) (st2 := [.int (-2147483636)]) jF_267_0 rfl rfl) ?_
      refine Eq.trans (jr_s (pc2 := 2) (lv2 := [(0, .ref 117), (1, .int (-2147483636))]) (st2 := [.long (-2147483636)]) jF_267_1 rfl rfl) ?_
      refine Eq.trans (jr_s (pc2 := 3) (lv2 := [(0, .ref 117), (1, .int (-2147483636))]) (st2 := [.long 0, .long (-2147483636)]) jF_267_2 rfl rfl) ?_
      refine Eq.trans (jr_s (pc2 := 6) (lv2 := [(0, .ref 117), (1, .int (-2147483636))]) (st2 := [.long 17, .long 0, .long (-2147483636)]) jF_267_3 rfl rfl) ?_
      refine Eq.trans (jr_cS (as := [.long (-2147483636), .long 0, .long 17]) (rest := []) (v := some (.int 0)) (hp2 := jh2) (fr2 := 498) (lo2 := 19954) jF_267_6 rfl (show j_cnd 499 19979 498 19954 6 _ _ = true from rfl) ?_) ?_
      · refine Eq.trans (jr_s (pc2 := 1) (lv2 := [(0, .long (-2147483636)), (2, .long 0), (4, .long 17)]) (st2 := [.long (-2147483636)]) jF_232_0 rfl rfl) ?_
        refine Eq.trans (jr_s (pc2 := 2) (lv2 := [(0, .long (-2147483636)), (2, .long 0), (4, .long 17)]) (st2 := [.long 0, .long (-2147483636)]) jF_232_1 rfl rfl) ?_
        refine Eq.trans (jr_s (pc2 := 3) (lv2 := [(0, .long (-2147483636)), (2, .long 0), (4, .long 17)]) (st2 := [.int (-1)]) jF_232_2 rfl rfl) ?_
        refine Eq.trans (jr_if1 jF_232_3 (by decide +kernel)) ?_
        refine Eq.trans (jr_s (pc2 := 18) (lv2 := [(0, .long (-2147483636)), (2, .long 0), (4, .long 17)]) (st2 := [.int 0]) jF_232_17 rfl rfl) ?_
        exact jr_ri jF_232_18 rfl
      refine Eq.trans (jr_if1 jF_267_9 (by decide +kernel)) ?_
      refine Eq.trans (jr_s (pc2 := 23) (lv2 := [(0, .ref 117), (1, .int (-2147483636))]) (st2 := [.int (-2147483636)]) jF_267_22 rfl rfl) ?_
      refine Eq.trans (jr_s (pc2 := 25) (lv2 := [(0, .ref 117), (1, .int (-2147483636))]) (st2 := [.int 20, .int (-2147483636)]) jF_267_23 rfl rfl) ?_
      refine Eq.trans (jr_s (pc2 := 26) (lv2 := [(0, .ref 117), (1, .int (-2147483636))]) (st2 := [.int 2147483640]) jF_267_25 rfl rfl) ?_
      refine Eq.trans (jr_s (pc2 := 27) (lv2 := [(0, .ref 117), (1, .int (-2147483636))]) (st2 := [.long 2147483640]) jF_267_26 rfl rfl) ?_
      refine Eq.trans (jr_s (pc2 := 28) (lv2 := [(0, .ref 117), (1, .int (-2147483636))]) (st2 := [.long 0, .long 2147483640]) jF_267_27 rfl rfl) ?_
      refine Eq.trans (jr_s (pc2 := 29) (lv2 := [(0, .ref 117), (1, .int (-2147483636))]) (st2 := [.ref 117, .long 0, .long 2147483640]) jF_267_28 rfl rfl) ?_
      refine Eq.trans (jr_gf (v := .int 0) jF_267_29 (by decide +kernel)) ?_
      refine Eq.trans (jr_s (pc2 := 33) (lv2 := [(0, .ref 117), (1, .int (-2147483636))]) (st2 := [.int 1, .int 0, .long 0, .long 2147483640]) jF_267_32 rfl rfl) ?_
      refine Eq.trans (jr_s (pc2 := 34) (lv2 := [(0, .ref 117), (1, .int (-2147483636))]) (st2 := [.int (-1), .long 0, .long 2147483640]) jF_267_33 rfl rfl) ?_
      refine Eq.trans (jr_s (pc2 := 35) (lv2 := [(0, .ref 117), (1, .int (-2147483636))]) (st2 := [.long (-1), .long 0, .long 2147483640]) jF_267_34 rfl rfl) ?_
      refine Eq.trans (jr_cS (as := [.long 2147483640, .long 0, .long (-1)]) (rest := []) (v := some (.int 0)) (hp2 := jh2) (fr2 := 498) (lo2 := 19954) jF_267_35 rfl (show j_cnd 499 19979 498 19954 6 _ _ = true from rfl) ?_) ?_
      · refine Eq.trans (jr_s (pc2 := 1) (lv2 := [(0, .long 2147483640), (2, .long 0), (4, .long (-1))]) (st2 := [.long 2147483640]) jF_232_0 rfl rfl) ?_
        refine Eq.trans (jr_s (pc2 := 2) (lv2 := [(0, .long 2147483640), (2, .long 0), (4, .long (-1))]) (st2 := [.long 0, .long 2147483640]) jF_232_1 rfl rfl) ?_
        refine Eq.trans (jr_s (pc2 := 3) (lv2 := [(0, .long 2147483640), (2, .long 0), (4, .long (-1))]) (st2 := [.int 1]) jF_232_2 rfl rfl) ?_
        refine Eq.trans (jr_if0 jF_232_3 (by decide +kernel)) ?_
        refine Eq.trans (jr_s (pc2 := 7) (lv2 := [(0, .long 2147483640), (2, .long 0), (4, .long (-1))]) (st2 := [.long 2147483640]) jF_232_6 rfl rfl) ?_
        refine Eq.trans (jr_s (pc2 := 9) (lv2 := [(0, .long 2147483640), (2, .long 0), (4, .long (-1))]) (st2 := [.long (-1), .long 2147483640]) jF_232_7 rfl rfl) ?_
        refine Eq.trans (jr_s (pc2 := 10) (lv2 := [(0, .long 2147483640), (2, .long 0), (4, .long (-1))]) (st2 := [.int 1]) jF_232_9 rfl rfl) ?_
        refine Eq.trans (jr_if1 jF_232_10 (by decide +kernel)) ?_
        refine Eq.trans (jr_s (pc2 := 18) (lv2 := [(0, .long 2147483640), (2, .long 0), (4, .long (-1))]) (st2 := [.int 0]) jF_232_17 rfl rfl) ?_
        exact jr_ri jF_232_18 rfl
      refine Eq.trans (jr_if1 jF_267_38 (by decide +kernel)) ?_
      refine Eq.trans (jr_s (pc2 := 56) (lv2 := [(0, .ref 117), (1, .int (-2147483636))]) (st2 := [.long 0]) jF_267_55 rfl rfl) ?_
      exact jr_rl jF_267_56
    refine Eq.trans (jr_s (pc2 := 6) (lv2 := [(3, .long 0), (0, .ref 117), (1, .int (-2147483636)), (2, .int a2)]) (st2 := []) jF_266_5 rfl rfl) ?_
    refine Eq.trans (jr_s (pc2 := 7) (lv2 := [(3, .long 0), (0, .ref 117), (1, .int (-2147483636)), (2, .int a2)]) (st2 := [.long 0]) jF_266_6 rfl rfl) ?_
    refine Eq.trans (jr_s (pc2 := 8) (lv2 := [(3, .long 0), (0, .ref 117), (1, .int (-2147483636)), (2, .int a2)]) (st2 := [.long 0, .long 0]) jF_266_7 rfl rfl) ?_
    refine Eq.trans (jr_s (pc2 := 9) (lv2 := [(3, .long 0), (0, .ref 117), (1, .int (-2147483636)), (2, .int a2)]) (st2 := [.int 0]) jF_266_8 rfl rfl) ?_
    refine Eq.trans (jr_if1 jF_266_9 (by decide +kernel)) ?_
    refine Eq.trans (jr_s (pc2 := 25) (lv2 := [(3, .long 0), (0, .ref 117), (1, .int (-2147483636)), (2, .int a2)]) (st2 := [.int (-1)]) jF_266_24 rfl rfl) ?_
    exact jr_ri jF_266_25 rfl
set_option maxHeartbeats 8000000 in
set_option maxRecDepth 100000 in
theorem pm_letter_L13 (a2 : Int32) (hl_a2 : (-2147483648) ≤ a2.toInt) (hh_a2 : a2.toInt ≤ 2147483647) : PM 92 266 [.int (-2147483635), .int a2] := by
  refine ⟨60000, 60000, (-1), jh2, jh2, ?_, ?_, by decide +kernel⟩
  · refine Eq.trans (jr_s (pc2 := 1) (lv2 := [(0, .ref 9), (1, .int (-2147483635)), (2, .int a2)]) (st2 := [.ref 9]) jF_92_0 rfl rfl) ?_
    refine Eq.trans (jr_gf (v := .ref 20) jF_92_1 (by decide +kernel)) ?_
    refine Eq.trans (jr_s (pc2 := 5) (lv2 := [(0, .ref 9), (1, .int (-2147483635)), (2, .int a2)]) (st2 := [.int (-2147483635), .ref 20]) jF_92_4 rfl rfl) ?_
    refine Eq.trans (jr_s (pc2 := 6) (lv2 := [(0, .ref 9), (1, .int (-2147483635)), (2, .int a2)]) (st2 := [.int a2, .int (-2147483635), .ref 20]) jF_92_5 rfl rfl) ?_
    refine Eq.trans (jr_cV (a := 20) (as := [.int (-2147483635), .int a2]) (rest := []) (v := some (.int (-1))) (hp2 := jh2) (fr2 := 499) (lo2 := 19978) jF_92_6 (by decide +kernel) rfl (show j_cnd 500 20000 499 19978 3 _ _ = true from rfl) ?_) ?_
    · refine Eq.trans (jr_s (pc2 := 1) (lv2 := [(0, .ref 20), (1, .int (-2147483635)), (2, .int a2)]) (st2 := [.int (-2147483635)]) jF_93_0 rfl rfl) ?_
      refine Eq.trans (jr_if1 jF_93_1 (by decide +kernel)) ?_
      refine Eq.trans (jr_s (pc2 := 33) (lv2 := [(0, .ref 20), (1, .int (-2147483635)), (2, .int a2)]) (st2 := [.int (-1)]) jF_93_32 rfl rfl) ?_
      exact jr_ri jF_93_33 rfl
    exact jr_ri jF_92_9 rfl
  · refine Eq.trans (jr_s (pc2 := 1) (lv2 := [(0, .ref 117), (1, .int (-2147483635)), (2, .int a2)]) (st2 := [.ref 117]) jF_266_0 rfl rfl) ?_
    refine Eq.trans (jr_s (pc2 := 2) (lv2 := [(0, .ref 117), (1, .int (-2147483635)), (2, .int a2)]) (st2 := [.int (-2147483635), .ref 117]) jF_266_1 rfl rfl) ?_
    refine Eq.trans (jr_cV (a := 117) (as := [.int (-2147483635)]) (rest := []) (v := some (.long 0)) (hp2 := jh2) (fr2 := 499) (lo2 := 19979) jF_266_2 (by decide +kernel) rfl (show j_cnd 500 20000 499 19979 2 _ _ = true from rfl) ?_) ?_
    · refine Eq.trans (jr_s (pc2 := 1) (lv2 := [(0, .ref 117), (1, .int (-2147483635))]) (st2 := [.int (-2147483635)]) jF_267_0 rfl rfl) ?_
      refine Eq.trans (jr_s (pc2 := 2) (lv2 := [(0, .ref 117), (1, .int (-2147483635))]) (st2 := [.long (-2147483635)]) jF_267_1 rfl rfl) ?_
      refine Eq.trans (jr_s (pc2 := 3) (lv2 := [(0, .ref 117), (1, .int (-2147483635))]) (st2 := [.long 0, .long (-2147483635)]) jF_267_2 rfl rfl) ?_
      refine Eq.trans (jr_s (pc2 := 6) (lv2 := [(0, .ref 117), (1, .int (-2147483635))]) (st2 := [.long 17, .long 0, .long (-2147483635)]) jF_267_3 rfl rfl) ?_
      refine Eq.trans (jr_cS (as := [.long (-2147483635), .long 0, .long 17]) (rest := []) (v := some (.int 0)) (hp2 := jh2) (fr2 := 498) (lo2 := 19954) jF_267_6 rfl (show j_cnd 499 19979 498 19954 6 _ _ = true from rfl) ?_) ?_
      · refine Eq.trans (jr_s (pc2 := 1) (lv2 := [(0, .long (-2147483635)), (2, .long 0), (4, .long 17)]) (st2 := [.long (-2147483635)]) jF_232_0 rfl rfl) ?_
        refine Eq.trans (jr_s (pc2 := 2) (lv2 := [(0, .long (-2147483635)), (2, .long 0), (4, .long 17)]) (st2 := [.long 0, .long (-2147483635)]) jF_232_1 rfl rfl) ?_
        refine Eq.trans (jr_s (pc2 := 3) (lv2 := [(0, .long (-2147483635)), (2, .long 0), (4, .long 17)]) (st2 := [.int (-1)]) jF_232_2 rfl rfl) ?_
        refine Eq.trans (jr_if1 jF_232_3 (by decide +kernel)) ?_
        refine Eq.trans (jr_s (pc2 := 18) (lv2 := [(0, .long (-2147483635)), (2, .long 0), (4, .long 17)]) (st2 := [.int 0]) jF_232_17 rfl rfl) ?_
        exact jr_ri jF_232_18 rfl
      refine Eq.trans (jr_if1 jF_267_9 (by decide +kernel)) ?_
      refine Eq.trans (jr_s (pc2 := 23) (lv2 := [(0, .ref 117), (1, .int (-2147483635))]) (st2 := [.int (-2147483635)]) jF_267_22 rfl rfl) ?_
      refine Eq.trans (jr_s (pc2 := 25) (lv2 := [(0, .ref 117), (1, .int (-2147483635))]) (st2 := [.int 20, .int (-2147483635)]) jF_267_23 rfl rfl) ?_
      refine Eq.trans (jr_s (pc2 := 26) (lv2 := [(0, .ref 117), (1, .int (-2147483635))]) (st2 := [.int 2147483641]) jF_267_25 rfl rfl) ?_
      refine Eq.trans (jr_s (pc2 := 27) (lv2 := [(0, .ref 117), (1, .int (-2147483635))]) (st2 := [.long 2147483641]) jF_267_26 rfl rfl) ?_
      refine Eq.trans (jr_s (pc2 := 28) (lv2 := [(0, .ref 117), (1, .int (-2147483635))]) (st2 := [.long 0, .long 2147483641]) jF_267_27 rfl rfl) ?_
      refine Eq.trans (jr_s (pc2 := 29) (lv2 := [(0, .ref 117), (1, .int (-2147483635))]) (st2 := [.ref 117, .long 0, .long 2147483641]) jF_267_28 rfl rfl) ?_
      refine Eq.trans (jr_gf (v := .int 0) jF_267_29 (by decide +kernel)) ?_
      refine Eq.trans (jr_s (pc2 := 33) (lv2 := [(0, .ref 117), (1, .int (-2147483635))]) (st2 := [.int 1, .int 0, .long 0, .long 2147483641]) jF_267_32 rfl rfl) ?_
      refine Eq.trans (jr_s (pc2 := 34) (lv2 := [(0, .ref 117), (1, .int (-2147483635))]) (st2 := [.int (-1), .long 0, .long 2147483641]) jF_267_33 rfl rfl) ?_
      refine Eq.trans (jr_s (pc2 := 35) (lv2 := [(0, .ref 117), (1, .int (-2147483635))]) (st2 := [.long (-1), .long 0, .long 2147483641]) jF_267_34 rfl rfl) ?_
      refine Eq.trans (jr_cS (as := [.long 2147483641, .long 0, .long (-1)]) (rest := []) (v := some (.int 0)) (hp2 := jh2) (fr2 := 498) (lo2 := 19954) jF_267_35 rfl (show j_cnd 499 19979 498 19954 6 _ _ = true from rfl) ?_) ?_
      · refine Eq.trans (jr_s (pc2 := 1) (lv2 := [(0, .long 2147483641), (2, .long 0), (4, .long (-1))]) (st2 := [.long 2147483641]) jF_232_0 rfl rfl) ?_
        refine Eq.trans (jr_s (pc2 := 2) (lv2 := [(0, .long 2147483641), (2, .long 0), (4, .long (-1))]) (st2 := [.long 0, .long 2147483641]) jF_232_1 rfl rfl) ?_
        refine Eq.trans (jr_s (pc2 := 3) (lv2 := [(0, .long 2147483641), (2, .long 0), (4, .long (-1))]) (st2 := [.int 1]) jF_232_2 rfl rfl) ?_
        refine Eq.trans (jr_if0 jF_232_3 (by decide +kernel)) ?_
        refine Eq.trans (jr_s (pc2 := 7) (lv2 := [(0, .long 2147483641), (2, .long 0), (4, .long (-1))]) (st2 := [.long 2147483641]) jF_232_6 rfl rfl) ?_
        refine Eq.trans (jr_s (pc2 := 9) (lv2 := [(0, .long 2147483641), (2, .long 0), (4, .long (-1))]) (st2 := [.long (-1), .long 2147483641]) jF_232_7 rfl rfl) ?_
        refine Eq.trans (jr_s (pc2 := 10) (lv2 := [(0, .long 2147483641), (2, .long 0), (4, .long (-1))]) (st2 := [.int 1]) jF_232_9 rfl rfl) ?_
        refine Eq.trans (jr_if1 jF_232_10 (by decide +kernel)) ?_
        refine Eq.trans (jr_s (pc2 := 18) (lv2 := [(0, .long 2147483641), (2, .long 0), (4, .long (-1))]) (st2 := [.int 0]) jF_232_17 rfl rfl) ?_
        exact jr_ri jF_232_18 rfl
      refine Eq.trans (jr_if1 jF_267_38 (by decide +kernel)) ?_
      refine Eq.trans (jr_s (pc2 := 56) (lv2 := [(0, .ref 117), (1, .int (-2147483635))]) (st2 := [.long 0]) jF_267_55 rfl rfl) ?_
      exact jr_rl jF_267_56
    refine Eq.trans (jr_s (pc2 := 6) (lv2 := [(3, .long 0), (0, .ref 117), (1, .int (-2147483635)), (2, .int a2)]) (st2 := []) jF_266_5 rfl rfl) ?_
    refine Eq.trans (jr_s (pc2 := 7) (lv2 := [(3, .long 0), (0, .ref 117), (1, .int (-2147483635)), (2, .int a2)]) (st2 := [.long 0]) jF_266_6 rfl rfl) ?_
    refine Eq.trans (jr_s (pc2 := 8) (lv2 := [(3, .long 0), (0, .ref 117), (1, .int (-2147483635)), (2, .int a2)]) (st2 := [.long 0, .long 0]) jF_266_7 rfl rfl) ?_
    refine Eq.trans (jr_s (pc2 := 9) (lv2 := [(3, .long 0), (0, .ref 117), (1, .int (-2147483635)), (2, .int a2)]) (st2 := [.int 0]) jF_266_8 rfl rfl) ?_
    refine Eq.trans (jr_if1 jF_266_9 (by decide +kernel)) ?_
    refine Eq.trans (jr_s (pc2 := 25) (lv2 := [(3, .long 0), (0, .ref 117), (1, .int (-2147483635)), (2, .int a2)]) (st2 := [.int (-1)]) jF_266_24 rfl rfl) ?_
    exact jr_ri jF_266_25 rfl
