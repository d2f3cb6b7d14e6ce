set_option maxHeartbeats 8000000 in
set_option maxRecDepth 100000 in
theorem pm_letter (a1 a2 : Int32) : PM 92 266 [.int a1, .int a2] := by
  have ub_a1 := Int32.toInt_lt a1
  have lb_a1 := Int32.le_toInt a1
  have ub_a2 := Int32.toInt_lt a2
  have lb_a2 := Int32.le_toInt a2
  rcases j_ilt a1.toInt 0 with h_a1_0 | h_a1_0
  · rcases j_ilt a1.toInt (-2147483628) with h_a1_2147483628m | h_a1_2147483628m
    · rcases j_ilt a1.toInt (-2147483647) with h_a1_2147483647m | h_a1_2147483647m
      · obtain rfl : a1 = (-2147483648) := Int32.toInt_inj.mp (by rw [show ((-2147483648) : Int32).toInt = (-2147483648) from by decide]; omega)
        refine ⟨60000, 60000, (-1), jh2, jh2, ?_, ?_, by decide +kernel⟩
        · refine Eq.trans (jr_s (pc2 := 1) (lv2 := [(0, .ref 9), (1, .int (-2147483648)), (2, .int a2)]) (st2 := [.ref 9]) jF_92_0 rfl rfl) ?_
          refine Eq.trans (jr_gf (v := .ref 20) jF_92_1 (by decide +kernel)) ?_
          refine Eq.trans (jr_s (pc2 := 5) (lv2 := [(0, .ref 9), (1, .int (-2147483648)), (2, .int a2)]) (st2 := [.int (-2147483648), .ref 20]) jF_92_4 rfl rfl) ?_
          refine Eq.trans (jr_s (pc2 := 6) (lv2 := [(0, .ref 9), (1, .int (-2147483648)), (2, .int a2)]) (st2 := [.int a2, .int (-2147483648), .ref 20]) jF_92_5 rfl rfl) ?_
          refine Eq.trans (jr_cV (a := 20) (as := [.int (-2147483648), .int a2]) (rest := []) (v := some (.int (-1))) (hp2 := jh2) (fr2 := 499) (lo2 := 19978) jF_92_6 (by decide +kernel) rfl (show j_cnd 500 20000 499 19978 3 _ _ = true from rfl) ?_) ?_
          · refine Eq.trans (jr_s (pc2 := 1) (lv2 := [(0, .ref 20), (1, .int (-2147483648)), (2, .int a2)]) (st2 := [.int (-2147483648)]) jF_93_0 rfl rfl) ?_
            refine Eq.trans (jr_if1 jF_93_1 (by decide +kernel)) ?_
            refine Eq.trans (jr_s (pc2 := 33) (lv2 := [(0, .ref 20), (1, .int (-2147483648)), (2, .int a2)]) (st2 := [.int (-1)]) jF_93_32 rfl rfl) ?_
            exact jr_ri jF_93_33 rfl
          exact jr_ri jF_92_9 rfl
        · refine Eq.trans (jr_s (pc2 := 1) (lv2 := [(0, .ref 117), (1, .int (-2147483648)), (2, .int a2)]) (st2 := [.ref 117]) jF_266_0 rfl rfl) ?_
          refine Eq.trans (jr_s (pc2 := 2) (lv2 := [(0, .ref 117), (1, .int (-2147483648)), (2, .int a2)]) (st2 := [.int (-2147483648), .ref 117]) jF_266_1 rfl rfl) ?_
          refine Eq.trans (jr_cV (a := 117) (as := [.int (-2147483648)]) (rest := []) (v := some (.long 0)) (hp2 := jh2) (fr2 := 499) (lo2 := 19979) jF_266_2 (by decide +kernel) rfl (show j_cnd 500 20000 499 19979 2 _ _ = true from rfl) ?_) ?_
          · refine Eq.trans (jr_s (pc2 := 1) (lv2 := [(0, .ref 117), (1, .int (-2147483648))]) (st2 := [.int (-2147483648)]) jF_267_0 rfl rfl) ?_
            refine Eq.trans (jr_s (pc2 := 2) (lv2 := [(0, .ref 117), (1, .int (-2147483648))]) (st2 := [.long (-2147483648)]) jF_267_1 rfl rfl) ?_
            refine Eq.trans (jr_s (pc2 := 3) (lv2 := [(0, .ref 117), (1, .int (-2147483648))]) (st2 := [.long 0, .long (-2147483648)]) jF_267_2 rfl rfl) ?_
            refine Eq.trans (jr_s (pc2 := 6) (lv2 := [(0, .ref 117), (1, .int (-2147483648))]) (st2 := [.long 17, .long 0, .long (-2147483648)]) jF_267_3 rfl rfl) ?_
            refine Eq.trans (jr_cS (as := [.long (-2147483648), .long 0, .long 17]) (rest := []) (v := some (.int 0)) (hp2 := jh2) (fr2 := 498) (lo2 := 19954) jF_267_6 rfl (show j_cnd 499 19979 498 19954 6 _ _ = true from rfl) ?_) ?_
            · refine Eq.trans (jr_s (pc2 := 1) (lv2 := [(0, .long (-2147483648)), (2, .long 0), (4, .long 17)]) (st2 := [.long (-2147483648)]) jF_232_0 rfl rfl) ?_
              refine Eq.trans (jr_s (pc2 := 2) (lv2 := [(0, .long (-2147483648)), (2, .long 0), (4, .long 17)]) (st2 := [.long 0, .long (-2147483648)]) jF_232_1 rfl rfl) ?_
              refine Eq.trans (jr_s (pc2 := 3) (lv2 := [(0, .long (-2147483648)), (2, .long 0), (4, .long 17)]) (st2 := [.int (-1)]) jF_232_2 rfl rfl) ?_
              refine Eq.trans (jr_if1 jF_232_3 (by decide +kernel)) ?_
              refine Eq.trans (jr_s (pc2 := 18) (lv2 := [(0, .long (-2147483648)), (2, .long 0), (4, .long 17)]) (st2 := [.int 0]) jF_232_17 rfl rfl) ?_
              exact jr_ri jF_232_18 rfl
            refine Eq.trans (jr_if1 jF_267_9 (by decide +kernel)) ?_
            refine Eq.trans (jr_s (pc2 := 23) (lv2 := [(0, .ref 117), (1, .int (-2147483648))]) (st2 := [.int (-2147483648)]) jF_267_22 rfl rfl) ?_
            refine Eq.trans (jr_s (pc2 := 25) (lv2 := [(0, .ref 117), (1, .int (-2147483648))]) (st2 := [.int 20, .int (-2147483648)]) jF_267_23 rfl rfl) ?_
            refine Eq.trans (jr_s (pc2 := 26) (lv2 := [(0, .ref 117), (1, .int (-2147483648))]) (st2 := [.int 2147483628]) jF_267_25 rfl rfl) ?_
            refine Eq.trans (jr_s (pc2 := 27) (lv2 := [(0, .ref 117), (1, .int (-2147483648))]) (st2 := [.long 2147483628]) jF_267_26 rfl rfl) ?_
            refine Eq.trans (jr_s (pc2 := 28) (lv2 := [(0, .ref 117), (1, .int (-2147483648))]) (st2 := [.long 0, .long 2147483628]) jF_267_27 rfl rfl) ?_
            refine Eq.trans (jr_s (pc2 := 29) (lv2 := [(0, .ref 117), (1, .int (-2147483648))]) (st2 := [.ref 117, .long 0, .long 2147483628]) jF_267_28 rfl rfl) ?_
            refine Eq.trans (jr_gf (v := .int 0) jF_267_29 (by decide +kernel)) ?_
            refine Eq.trans (jr_s (pc2 := 33) (lv2 := [(0, .ref 117), (1, .int (-2147483648))]) (st2 := [.int 1, .int 0, .long 0, .long 2147483628]) jF_267_32 rfl rfl) ?_
            refine Eq.trans (jr_s (pc2 := 34) (lv2 := [(0, .ref 117), (1, .int (-2147483648))]) (st2 := [.int (-1), .long 0, .long 2147483628]) jF_267_33 rfl rfl) ?_
            refine Eq.trans (jr_s (pc2 := 35) (lv2 := [(0, .ref 117), (1, .int (-2147483648))]) (st2 := [.long (-1), .long 0, .long 2147483628]) jF_267_34 rfl rfl) ?_
            refine Eq.trans (jr_cS (as := [.long 2147483628, .long 0, .long (-1)]) (rest := []) (v := some (.int 0)) (hp2 := jh2) (fr2 := 498) (lo2 := 19954) jF_267_35 rfl (show j_cnd 499 19979 498 19954 6 _ _ = true from rfl) ?_) ?_
            · refine Eq.trans (jr_s (pc2 := 1) (lv2 := [(0, .long 2147483628), (2, .long 0), (4, .long (-1))]) (st2 := [.long 2147483628]) jF_232_0 rfl rfl) ?_
              refine Eq.trans (jr_s (pc2 := 2) (lv2 := [(0, .long 2147483628), (2, .long 0), (4, .long (-1))]) (st2 := [.long 0, .long 2147483628]) jF_232_1 rfl rfl) ?_
              refine Eq.trans (jr_s (pc2 := 3) (lv2 := [(0, .long 2147483628), (2, .long 0), (4, .long (-1))]) (st2 := [.int 1]) jF_232_2 rfl rfl) ?_
              refine Eq.trans (jr_if0 jF_232_3 (by decide +kernel)) ?_
              refine Eq.trans (jr_s (pc2 := 7) (lv2 := [(0, .long 2147483628), (2, .long 0), (4, .long (-1))]) (st2 := [.long 2147483628]) jF_232_6 rfl rfl) ?_
              refine Eq.trans (jr_s (pc2 := 9) (lv2 := [(0, .long 2147483628), (2, .long 0), (4, .long (-1))]) (st2 := [.long (-1), .long 2147483628]) jF_232_7 rfl rfl) ?_
              refine Eq.trans (jr_s (pc2 := 10) (lv2 := [(0, .long 2147483628), (2, .long 0), (4, .long (-1))]) (st2 := [.int 1]) jF_232_9 rfl rfl) ?_
              refine Eq.trans (jr_if1 jF_232_10 (by decide +kernel)) ?_
              refine Eq.trans (jr_s (pc2 := 18) (lv2 := [(0, .long 2147483628), (2, .long 0), (4, .long (-1))]) (st2 := [.int 0]) jF_232_17 rfl rfl) ?_
              exact jr_ri jF_232_18 rfl
            refine Eq.trans (jr_if1 jF_267_38 (by decide +kernel)) ?_
            refine Eq.trans (jr_s (pc2 := 56) (lv2 := [(0, .ref 117), (1, .int (-2147483648))]) (st2 := [.long 0]) jF_267_55 rfl rfl) ?_
            exact jr_rl jF_267_56
          refine Eq.trans (jr_s (pc2 := 6) (lv2 := [(3, .long 0), (0, .ref 117), (1, .int (-2147483648)), (2, .int a2)]) (st2 := []) jF_266_5 rfl rfl) ?_
          refine Eq.trans (jr_s (pc2 := 7) (lv2 := [(3, .long 0), (0, .ref 117), (1, .int (-2147483648)), (2, .int a2)]) (st2 := [.long 0]) jF_266_6 rfl rfl) ?_
          refine Eq.trans (jr_s (pc2 := 8) (lv2 := [(3, .long 0), (0, .ref 117), (1, .int (-2147483648)), (2, .int a2)]) (st2 := [.long 0, .long 0]) jF_266_7 rfl rfl) ?_
          refine Eq.trans (jr_s (pc2 := 9) (lv2 := [(3, .long 0), (0, .ref 117), (1, .int (-2147483648)), (2, .int a2)]) (st2 := [.int 0]) jF_266_8 rfl rfl) ?_
          refine Eq.trans (jr_if1 jF_266_9 (by decide +kernel)) ?_
          refine Eq.trans (jr_s (pc2 := 25) (lv2 := [(3, .long 0), (0, .ref 117), (1, .int (-2147483648)), (2, .int a2)]) (st2 := [.int (-1)]) jF_266_24 rfl rfl) ?_
          exact jr_ri jF_266_25 rfl
      · rcases j_ilt a1.toInt (-2147483646) with h_a1_2147483646m | h_a1_2147483646m
        · obtain rfl : a1 = (-2147483647) := Int32.toInt_inj.mp (by rw [show ((-2147483647) : Int32).toInt = (-2147483647) from by decide]; omega)
          refine ⟨60000, 60000, (-1), jh2, jh2, ?_, ?_, by decide +kernel⟩
          · refine Eq.trans (jr_s (pc2 := 1) (lv2 := [(0, .ref 9), (1, .int (-2147483647)), (2, .int a2)]) (st2 := [.ref 9]) jF_92_0 rfl rfl) ?_
            refine Eq.trans (jr_gf (v := .ref 20) jF_92_1 (by decide +kernel)) ?_
            refine Eq.trans (jr_s (pc2 := 5) (lv2 := [(0, .ref 9), (1, .int (-2147483647)), (2, .int a2)]) (st2 := [.int (-2147483647), .ref 20]) jF_92_4 rfl rfl) ?_
            refine Eq.trans (jr_s (pc2 := 6) (lv2 := [(0, .ref 9), (1, .int (-2147483647)), (2, .int a2)]) (st2 := [.int a2, .int (-2147483647), .ref 20]) jF_92_5 rfl rfl) ?_
            refine Eq.trans (jr_cV (a := 20) (as := [.int (-2147483647), .int a2]) (rest := []) (v := some (.int (-1))) (hp2 := jh2) (fr2 := 499) (lo2 := 19978) jF_92_6 (by decide +kernel) rfl (show j_cnd 500 20000 499 19978 3 _ _ = true from rfl) ?_) ?_
            · refine Eq.trans (jr_s (pc2 := 1) (lv2 := [(0, .ref 20), (1, .int (-2147483647)), (2, .int a2)]) (st2 := [.int (-2147483647)]) jF_93_0 rfl rfl) ?_
              refine Eq.trans (jr_if1 jF_93_1 (by decide +kernel)) ?_
              refine Eq.trans (jr_s (pc2 := 33) (lv2 := [(0, .ref 20), (1, .int (-2147483647)), (2, .int a2)]) (st2 := [.int (-1)]) jF_93_32 rfl rfl) ?_
              exact jr_ri jF_93_33 rfl
            exact jr_ri jF_92_9 rfl
          · refine Eq.trans (jr_s (pc2 := 1) (lv2 := [(0, .ref 117), (1, .int (-2147483647)), (2, .int a2)]) (st2 := [.ref 117]) jF_266_0 rfl rfl) ?_
            refine Eq.trans (jr_s (pc2 := 2) (lv2 := [(0, .ref 117), (1, .int (-2147483647)), (2, .int a2)]) (st2 := [.int (-2147483647), .ref 117]) jF_266_1 rfl rfl) ?_
            refine Eq.trans (jr_cV (a := 117) (as := [.int (-2147483647)]) (rest := []) (v := some (.long 0)) (hp2 := jh2) (fr2 := 499) (lo2 := 19979) jF_266_2 (by decide +kernel) rfl (show j_cnd 500 20000 499 19979 2 _ _ = true from rfl) ?_) ?_
            · refine Eq.trans (jr_s (pc2 := 1) (lv2 := [(0, .ref 117), (1, .int (-2147483647))]) (st2 := [.int (-2147483647)]) jF_267_0 rfl rfl) ?_
              refine Eq.trans (jr_s (pc2 := 2) (lv2 := [(0, .ref 117), (1, .int (-2147483647))]) (st2 := [.long (-2147483647)]) jF_267_1 rfl rfl) ?_
              refine Eq.trans (jr_s (pc2 := 3) (lv2 := [(0, .ref 117), (1, .int (-2147483647))]) (st2 := [.long 0, .long (-2147483647)]) jF_267_2 rfl rfl) ?_
              refine Eq.trans (jr_s (pc2 := 6) (lv2 := [(0, .ref 117), (1, .int (-2147483647))]) (st2 := [.long 17, .long 0, .long (-2147483647)]) jF_267_3 rfl rfl) ?_
              refine Eq.trans (jr_cS (as := [.long (-2147483647), .long 0, .long 17]) (rest := []) (v := some (.int 0)) (hp2 := jh2) (fr2 := 498) (lo2 := 19954) jF_267_6 rfl (show j_cnd 499 19979 498 19954 6 _ _ = true from rfl) ?_) ?_
              · refine Eq.trans (jr_s (pc2 := 1) (lv2 := [(0, .long (-2147483647)), (2, .long 0), (4, .long 17)]) (st2 := [.long (-2147483647)]) jF_232_0 rfl rfl) ?_
                refine Eq.trans (jr_s (pc2 := 2) (lv2 := [(0, .long (-2147483647)), (2, .long 0), (4, .long 17)]) (st2 := [.long 0, .long (-2147483647)]) jF_232_1 rfl rfl) ?_
                refine Eq.trans (jr_s (pc2 := 3) (lv2 := [(0, .long (-2147483647)), (2, .long 0), (4, .long 17)]) (st2 := [.int (-1)]) jF_232_2 rfl rfl) ?_
                refine Eq.trans (jr_if1 jF_232_3 (by decide +kernel)) ?_
                refine Eq.trans (jr_s (pc2 := 18) (lv2 := [(0, .long (-2147483647)), (2, .long 0), (4, .long 17)]) (st2 := [.int 0]) jF_232_17 rfl rfl) ?_
                exact jr_ri jF_232_18 rfl
              refine Eq.trans (jr_if1 jF_267_9 (by decide +kernel)) ?_
              refine Eq.trans (jr_s (pc2 := 23) (lv2 := [(0, .ref 117), (1, .int (-2147483647))]) (st2 := [.int (-2147483647)]) jF_267_22 rfl rfl) ?_
              refine Eq.trans (jr_s (pc2 := 25) (lv2 := [(0, .ref 117), (1, .int (-2147483647))]) (st2 := [.int 20, .int (-2147483647)]) jF_267_23 rfl rfl) ?_
              refine Eq.trans (jr_s (pc2 := 26) (lv2 := [(0, .ref 117), (1, .int (-2147483647))]) (st2 := [.int 2147483629]) jF_267_25 rfl rfl) ?_
              refine Eq.trans (jr_s (pc2 := 27) (lv2 := [(0, .ref 117), (1, .int (-2147483647))]) (st2 := [.long 2147483629]) jF_267_26 rfl rfl) ?_
              refine Eq.trans (jr_s (pc2 := 28) (lv2 := [(0, .ref 117), (1, .int (-2147483647))]) (st2 := [.long 0, .long 2147483629]) jF_267_27 rfl rfl) ?_
              refine Eq.trans (jr_s (pc2 := 29) (lv2 := [(0, .ref 117), (1, .int (-2147483647))]) (st2 := [.ref 117, .long 0, .long 2147483629]) jF_267_28 rfl rfl) ?_
              refine Eq.trans (jr_gf (v := .int 0) jF_267_29 (by decide +kernel)) ?_
              refine Eq.trans (jr_s (pc2 := 33) (lv2 := [(0, .ref 117), (1, .int (-2147483647))]) (st2 := [.int 1, .int 0, .long 0, .long 2147483629]) jF_267_32 rfl rfl) ?_
              refine Eq.trans (jr_s (pc2 := 34) (lv2 := [(0, .ref 117), (1, .int (-2147483647))]) (st2 := [.int (-1), .long 0, .long 2147483629]) jF_267_33 rfl rfl) ?_
              refine Eq.trans (jr_s (pc2 := 35) (lv2 := [(0, .ref 117), (1, .int (-2147483647))]) (st2 := [.long (-1), .long 0, .long 2147483629]) jF_267_34 rfl rfl) ?_
              refine Eq.trans (jr_cS (as := [.long 2147483629, .long 0, .long (-1)]) (rest := []) (v := some (.int 0)) (hp2 := jh2) (fr2 := 498) (lo2 := 19954) jF_267_35 rfl (show j_cnd 499 19979 498 19954 6 _ _ = true from rfl) ?_) ?_
              · refine Eq.trans (jr_s (pc2 := 1) (lv2 := [(0, .long 2147483629), (2, .long 0), (4, .long (-1))]) (st2 := [.long 2147483629]) jF_232_0 rfl rfl) ?_
                refine Eq.trans (jr_s (pc2 := 2) (lv2 := [(0, .long 2147483629), (2, .long 0), (4, .long (-1))]) (st2 := [.long 0, .long 2147483629]) jF_232_1 rfl rfl) ?_
                refine Eq.trans (jr_s (pc2 := 3) (lv2 := [(0, .long 2147483629), (2, .long 0), (4, .long (-1))]) (st2 := [.int 1]) jF_232_2 rfl rfl) ?_
                refine Eq.trans (jr_if0 jF_232_3 (by decide +kernel)) ?_
                refine Eq.trans (jr_s (pc2 := 7) (lv2 := [(0, .long 2147483629), (2, .long 0), (4, .long (-1))]) (st2 := [.long 2147483629]) jF_232_6 rfl rfl) ?_
                refine Eq.trans (jr_s (pc2 := 9) (lv2 := [(0, .long 2147483629), (2, .long 0), (4, .long (-1))]) (st2 := [.long (-1), .long 2147483629]) jF_232_7 rfl rfl) ?_
                refine Eq.trans (jr_s (pc2 := 10) (lv2 := [(0, .long 2147483629), (2, .long 0), (4, .long (-1))]) (st2 := [.int 1]) jF_232_9 rfl rfl) ?_
                refine Eq.trans (jr_if1 jF_232_10 (by decide +kernel)) ?_
                refine Eq.trans (jr_s (pc2 := 18) (lv2 := [(0, .long 2147483629), (2, .long 0), (4, .long (-1))]) (st2 := [.int 0]) jF_232_17 rfl rfl) ?_
                exact jr_ri jF_232_18 rfl
              refine Eq.trans (jr_if1 jF_267_38 (by decide +kernel)) ?_
              refine Eq.trans (jr_s (pc2 := 56) (lv2 := [(0, .ref 117), (1, .int (-2147483647))]) (st2 := [.long 0]) jF_267_55 rfl rfl) ?_
              exact jr_rl jF_267_56
            refine Eq.trans (jr_s (pc2 := 6) (lv2 := [(3, .long 0), (0, .ref 117), (1, .int (-2147483647)), (2, .int a2)]) (st2 := []) jF_266_5 rfl rfl) ?_
            refine Eq.trans (jr_s (pc2 := 7) (lv2 := [(3, .long 0), (0, .ref 117), (1, .int (-2147483647)), (2, .int a2)]) (st2 := [.long 0]) jF_266_6 rfl rfl) ?_
            refine Eq.trans (jr_s (pc2 := 8) (lv2 := [(3, .long 0), (0, .ref 117), (1, .int (-2147483647)), (2, .int a2)]) (st2 := [.long 0, .long 0]) jF_266_7 rfl rfl) ?_
            refine Eq.trans (jr_s (pc2 := 9) (lv2 := [(3, .long 0), (0, .ref 117), (1, .int (-2147483647)), (2, .int a2)]) (st2 := [.int 0]) jF_266_8 rfl rfl) ?_
            refine Eq.trans (jr_if1 jF_266_9 (by decide +kernel)) ?_
            refine Eq.trans (jr_s (pc2 := 25) (lv2 := [(3, .long 0), (0, .ref 117), (1, .int (-2147483647)), (2, .int a2)]) (st2 := [.int (-1)]) jF_266_24 rfl rfl) ?_
            exact jr_ri jF_266_25 rfl
        · rcases j_ilt a1.toInt (-2147483645) with h_a1_2147483645m | h_a1_2147483645m
          · obtain rfl : a1 = (-2147483646) := Int32.toInt_inj.mp (by rw [show ((-2147483646) : Int32).toInt = (-2147483646) from by decide]; omega)
            refine ⟨60000, 60000, (-1), jh2, jh2, ?_, ?_, by decide +kernel⟩
            · refine Eq.trans (jr_s (pc2 := 1) (lv2 := [(0, .ref 9), (1, .int (-2147483646)), (2, .int a2)]) (st2 := [.ref 9]) jF_92_0 rfl rfl) ?_
              refine Eq.trans (jr_gf (v := .ref 20) jF_92_1 (by decide +kernel)) ?_
              refine Eq.trans (jr_s (pc2 := 5) (lv2 := [(0, .ref 9), (1, .int (-2147483646)), (2, .int a2)]) (st2 := [.int (-2147483646), .ref 20]) jF_92_4 rfl rfl) ?_
              refine Eq.trans (jr_s (pc2 := 6) (lv2 := [(0, .ref 9), (1, .int (-2147483646)), (2, .int a2)]) (st2 := [.int a2, .int (-2147483646), .ref 20]) jF_92_5 rfl rfl) ?_
              refine Eq.trans (jr_cV (a := 20) (as := [.int (-2147483646), .int a2]) (rest := []) (v := some (.int (-1))) (hp2 := jh2) (fr2 := 499) (lo2 := 19978) jF_92_6 (by decide +kernel) rfl (show j_cnd 500 20000 499 19978 3 _ _ = true from rfl) ?_) ?_
              · refine Eq.trans (jr_s (pc2 := 1) (lv2 := [(0, .ref 20), (1, .int (-2147483646)), (2, .int a2)]) (st2 := [.int (-2147483646)]) jF_93_0 rfl rfl) ?_
                refine Eq.trans (jr_if1 jF_93_1 (by decide +kernel)) ?_
                refine Eq.trans (jr_s (pc2 := 33) (lv2 := [(0, .ref 20), (1, .int (-2147483646)), (2, .int a2)]) (st2 := [.int (-1)]) jF_93_32 rfl rfl) ?_
                exact jr_ri jF_93_33 rfl
              exact jr_ri jF_92_9 rfl
            · refine Eq.trans (jr_s (pc2 := 1) (lv2 := [(0, .ref 117), (1, .int (-2147483646)), (2, .int a2)]) (st2 := [.ref 117]) jF_266_0 rfl rfl) ?_
              refine Eq.trans (jr_s (pc2 := 2) (lv2 := [(0, .ref 117), (1, .int (-2147483646)), (2, .int a2)]) (st2 := [.int (-2147483646), .ref 117]) jF_266_1 rfl rfl) ?_
              refine Eq.trans (jr_cV (a := 117) (as := [.int (-2147483646)]) (rest := []) (v := some (.long 0)) (hp2 := jh2) (fr2 := 499) (lo2 := 19979) jF_266_2 (by decide +kernel) rfl (show j_cnd 500 20000 499 19979 2 _ _ = true from rfl) ?_) ?_
              · refine Eq.trans (jr_s (pc2 := 1) (lv2 := [(0, .ref 117), (1, .int (-2147483646))]) (st2 := [.int (-2147483646)]) jF_267_0 rfl rfl) ?_
                refine Eq.trans (jr_s (pc2 := 2) (lv2 := [(0, .ref 117), (1, .int (-2147483646))]) (st2 := [.long (-2147483646)]) jF_267_1 rfl rfl) ?_
                refine Eq.trans (jr_s (pc2 := 3) (lv2 := [(0, .ref 117), (1, .int (-2147483646))]) (st2 := [.long 0, .long (-2147483646)]) jF_267_2 rfl rfl) ?_
                refine Eq.trans (jr_s (pc2 := 6) (lv2 := [(0, .ref 117), (1, .int (-2147483646))]) (st2 := [.long 17, .long 0, .long (-2147483646)]) jF_267_3 rfl rfl) ?_
                refine Eq.trans (jr_cS (as := [.long (-2147483646), .long 0, .long 17]) (rest := []) (v := some (.int 0)) (hp2 := jh2) (fr2 := 498) (lo2 := 19954) jF_267_6 rfl (show j_cnd 499 19979 498 19954 6 _ _ = true from rfl) ?_) ?_
                · refine Eq.trans (jr_s (pc2 := 1) (lv2 := [(0, .long (-2147483646)), (2, .long 0), (4, .long 17)]) (st2 := [.long (-2147483646)]) jF_232_0 rfl rfl) ?_
                  refine Eq.trans (jr_s (pc2 := 2) (lv2 := [(0, .long (-2147483646)), (2, .long 0), (4, .long 17)]) (st2 := [.long 0, .long (-2147483646)]) jF_232_1 rfl rfl) ?_
                  refine Eq.trans (jr_s (pc2 := 3) (lv2 := [(0, .long (-2147483646)), (2, .long 0), (4, .long 17)]) (st2 := [.int (-1)]) jF_232_2 rfl rfl) ?_
                  refine Eq.trans (jr_if1 jF_232_3 (by decide +kernel)) ?_
                  refine Eq.trans (jr_s (pc2 := 18) (lv2 := [(0, .long (-2147483646)), (2, .long 0), (4, .long 17)]) (st2 := [.int 0]) jF_232_17 rfl rfl) ?_
                  exact jr_ri jF_232_18 rfl
                refine Eq.trans (jr_if1 jF_267_9 (by decide +kernel)) ?_
                refine Eq.trans (jr_s (pc2 := 23) (lv2 := [(0, .ref 117), (1, .int (-2147483646))]) (st2 := [.int (-2147483646)]) jF_267_22 rfl rfl) ?_
                refine Eq.trans (jr_s (pc2 := 25) (lv2 := [(0, .ref 117), (1, .int (-2147483646))]) (st2 := [.int 20, .int (-2147483646)]) jF_267_23 rfl rfl) ?_
                refine Eq.trans (jr_s (pc2 := 26) (lv2 := [(0, .ref 117), (1, .int (-2147483646))]) (st2 := [.int 2147483630]) jF_267_25 rfl rfl) ?_
                refine Eq.trans (jr_s (pc2 := 27) (lv2 := [(0, .ref 117), (1, .int (-2147483646))]) (st2 := [.long 2147483630]) jF_267_26 rfl rfl) ?_
                refine Eq.trans (jr_s (pc2 := 28) (lv2 := [(0, .ref 117), (1, .int (-2147483646))]) (st2 := [.long 0, .long 2147483630]) jF_267_27 rfl rfl) ?_
                refine Eq.trans (jr_s (pc2 := 29) (lv2 := [(0, .ref 117), (1, .int (-2147483646))]) (st2 := [.ref 117, .long 0, .long 2147483630]) jF_267_28 rfl rfl) ?_
                refine Eq.trans (jr_gf (v := .int 0) jF_267_29 (by decide +kernel)) ?_
                refine Eq.trans (jr_s (pc2 := 33) (lv2 := [(0, .ref 117), (1, .int (-2147483646))]) (st2 := [.int 1, .int 0, .long 0, .long 2147483630]) jF_267_32 rfl rfl) ?_
                refine Eq.trans (jr_s (pc2 := 34) (lv2 := [(0, .ref 117), (1, .int (-2147483646))]) (st2 := [.int (-1), .long 0, .long 2147483630]) jF_267_33 rfl rfl) ?_
                refine Eq.trans (jr_s (pc2 := 35) (lv2 := [(0, .ref 117), (1, .int (-2147483646))]) (st2 := [.long (-1), .long 0, .long 2147483630]) jF_267_34 rfl rfl) ?_
                refine Eq.trans (jr_cS (as := [.long 2147483630, .long 0, .long (-1)]) (rest := []) (v := some (.int 0)) (hp2 := jh2) (fr2 := 498) (lo2 := 19954) jF_267_35 rfl (show j_cnd 499 19979 498 19954 6 _ _ = true from rfl) ?_) ?_
                · refine Eq.trans (jr_s (pc2 := 1) (lv2 := [(0, .long 2147483630), (2, .long 0), (4, .long (-1))]) (st2 := [.long 2147483630]) jF_232_0 rfl rfl) ?_
                  refine Eq.trans (jr_s (pc2 := 2) (lv2 := [(0, .long 2147483630), (2, .long 0), (4, .long (-1))]) (st2 := [.long 0, .long 2147483630]) jF_232_1 rfl rfl) ?_
                  refine Eq.trans (jr_s (pc2 := 3) (lv2 := [(0, .long 2147483630), (2, .long 0), (4, .long (-1))]) (st2 := [.int 1]) jF_232_2 rfl rfl) ?_
                  refine Eq.trans (jr_if0 jF_232_3 (by decide +kernel)) ?_
                  refine Eq.trans (jr_s (pc2 := 7) (lv2 := [(0, .long 2147483630), (2, .long 0), (4, .long (-1))]) (st2 := [.long 2147483630]) jF_232_6 rfl rfl) ?_
                  refine Eq.trans (jr_s (pc2 := 9) (lv2 := [(0, .long 2147483630), (2, .long 0), (4, .long (-1))]) (st2 := [.long (-1), .long 2147483630]) jF_232_7 rfl rfl) ?_
                  refine Eq.trans (jr_s (pc2 := 10) (lv2 := [(0, .long 2147483630), (2, .long 0), (4, .long (-1))]) (st2 := [.int 1]) jF_232_9 rfl rfl) ?_
                  refine Eq.trans (jr_if1 jF_232_10 (by decide +kernel)) ?_
                  refine Eq.trans (jr_s (pc2 := 18) (lv2 := [(0, .long 2147483630), (2, .long 0), (4, .long (-1))]) (st2 := [.int 0]) jF_232_17 rfl rfl) ?_
                  exact jr_ri jF_232_18 rfl
                refine Eq.trans (jr_if1 jF_267_38 (by decide +kernel)) ?_
                refine Eq.trans (jr_s (pc2 := 56) (lv2 := [(0, .ref 117), (1, .int (-2147483646))]) (st2 := [.long 0]) jF_267_55 rfl rfl) ?_
                exact jr_rl jF_267_56
              refine Eq.trans (jr_s (pc2 := 6) (lv2 := [(3, .long 0), (0, .ref 117), (1, .int (-2147483646)), (2, .int a2)]) (st2 := []) jF_266_5 rfl rfl) ?_
              refine Eq.trans (jr_s (pc2 := 7) (lv2 := [(3, .long 0), (0, .ref 117), (1, .int (-2147483646)), (2, .int a2)]) (st2 := [.long 0]) jF_266_6 rfl rfl) ?_
              refine Eq.trans (jr_s (pc2 := 8) (lv2 := [(3, .long 0), (0, .ref 117), (1, .int (-2147483646)), (2, .int a2)]) (st2 := [.long 0, .long 0]) jF_266_7 rfl rfl) ?_
              refine Eq.trans (jr_s (pc2 := 9) (lv2 := [(3, .long 0), (0, .ref 117), (1, .int (-2147483646)), (2, .int a2)]) (st2 := [.int 0]) jF_266_8 rfl rfl) ?_
              refine Eq.trans (jr_if1 jF_266_9 (by decide +kernel)) ?_
              refine Eq.trans (jr_s (pc2 := 25) (lv2 := [(3, .long 0), (0, .ref 117), (1, .int (-2147483646)), (2, .int a2)]) (st2 := [.int (-1)]) jF_266_24 rfl rfl) ?_
              exact jr_ri jF_266_25 rfl
          · rcases j_ilt a1.toInt (-2147483644) with h_a1_2147483644m | h_a1_2147483644m
            · obtain rfl : a1 = (-2147483645) := Int32.toInt_inj.mp (by rw [show ((-2147483645) : Int32).toInt = (-2147483645) from by decide]; omega)
              refine ⟨60000, 60000, (-1), jh2, jh2, ?_, ?_, by decide +kernel⟩
              · refine Eq.trans (jr_s (pc2 := 1) (lv2 := [(0, .ref 9), (1, .int (-2147483645)), (2, .int a2)]) (st2 := [.ref 9]) jF_92_0 rfl rfl) ?_
                refine Eq.trans (jr_gf (v := .ref 20) jF_92_1 (by decide +kernel)) ?_
                refine Eq.trans (jr_s (pc2 := 5) (lv2 := [(0, .ref 9), (1, .int (-2147483645)), (2, .int a2)]) (st2 := [.int (-2147483645), .ref 20]) jF_92_4 rfl rfl) ?_
                refine Eq.trans (jr_s (pc2 := 6) (lv2 := [(0, .ref 9), (1, .int (-2147483645)), (2, .int a2)]) (st2 := [.int a2, .int (-2147483645), .ref 20]) jF_92_5 rfl rfl) ?_
                refine Eq.trans (jr_cV (a := 20) (as := [.int (-2147483645), .int a2]) (rest := []) (v := some (.int (-1))) (hp2 := jh2) (fr2 := 499) (lo2 := 19978) jF_92_6 (by decide +kernel) rfl (show j_cnd 500 20000 499 19978 3 _ _ = true from rfl) ?_) ?_
                · refine Eq.trans (jr_s (pc2 := 1) (lv2 := [(0, .ref 20), (1, .int (-2147483645)), (2, .int a2)]) (st2 := [.int (-2147483645)]) jF_93_0 rfl rfl) ?_
                  refine Eq.trans (jr_if1 jF_93_1 (by decide +kernel)) ?_
                  refine Eq.trans (jr_s (pc2 := 33) (lv2 := [(0, .ref 20), (1, .int (-2147483645)), (2, .int a2)]) (st2 := [.int (-1)]) jF_93_32 rfl rfl) ?_
                  exact jr_ri jF_93_33 rfl
                exact jr_ri jF_92_9 rfl
              · refine Eq.trans (jr_s (pc2 := 1) (lv2 := [(0, .ref 117), (1, .int (-2147483645)), (2, .int a2)]) (st2 := [.ref 117]) jF_266_0 rfl rfl) ?_
                refine Eq.trans (jr_s (pc2 := 2) (lv2 := [(0, .ref 117), (1, .int (-2147483645)), (2, .int a2)]) (st2 := [.int (-2147483645), .ref 117]) jF_266_1 rfl rfl) ?_
                refine Eq.trans (jr_cV (a := 117) (as := [.int (-2147483645)]) (rest := []) (v := some (.long 0)) (hp2 := jh2) (fr2 := 499) (lo2 := 19979) jF_266_2 (by decide +kernel) rfl (show j_cnd 500 20000 499 19979 2 _ _ = true from rfl) ?_) ?_
                · refine Eq.trans (jr_s (pc2 := 1) (lv2 := [(0, .ref 117), (1, .int (-2147483645))]) (st2 := [.int (-2147483645)]) jF_267_0 rfl rfl) ?_
                  refine Eq.trans (jr_s (pc2 := 2) (lv2 := [(0, .ref 117), (1, .int (-2147483645))]) (st2 := [.long (-2147483645)]) jF_267_1 rfl rfl) ?_
                  refine Eq.trans (jr_s (pc2 := 3) (lv2 := [(0, .ref 117), (1, .int (-2147483645))]) (st2 := [.long 0, .long (-2147483645)]) jF_267_2 rfl rfl) ?_
                  refine Eq.trans (jr_s (pc2 := 6) (lv2 := [(0, .ref 117), (1, .int (-2147483645))]) (st2 := [.long 17, .long 0, .long (-2147483645)]) jF_267_3 rfl rfl) ?_
                  refine Eq.trans (jr_cS (as := [.long (-2147483645), .long 0, .long 17]) (rest := []) (v := some (.int 0)) (hp2 := jh2) (fr2 := 498) (lo2 := 19954) jF_267_6 rfl (show j_cnd 499 19979 498 19954 6 _ _ = true from rfl) ?_) ?_
                  · refine Eq.trans (jr_s (pc2 := 1) (lv2 := [(0, .long (-2147483645)), (2, .long 0), (4, .long 17)]) (st2 := [.long (-2147483645)]) jF_232_0 rfl rfl) ?_
                    refine Eq.trans (jr_s (pc2 := 2) (lv2 := [(0, .long (-2147483645)), (2, .long 0), (4, .long 17)]) (st2 := [.long 0, .long (-2147483645)]) jF_232_1 rfl rfl) ?_
                    refine Eq.trans (jr_s (pc2 := 3) (lv2 := [(0, .long (-2147483645)), (2, .long 0), (4, .long 17)]) (st2 := [.int (-1)]) jF_232_2 rfl rfl) ?_
                    refine Eq.trans (jr_if1 jF_232_3 (by decide +kernel)) ?_
                    refine Eq.trans (jr_s (pc2 := 18) (lv2 := [(0, .long (-2147483645)), (2, .long 0), (4, .long 17)]) (st2 := [.int 0]) jF_232_17 rfl rfl) ?_
                    exact jr_ri jF_232_18 rfl
                  refine Eq.trans (jr_if1 jF_267_9 (by decide +kernel)) ?_
                  refine Eq.trans (jr_s (pc2 := 23) (lv2 := [(0, .ref 117), (1, .int (-2147483645))]) (st2 := [.int (-2147483645)]) jF_267_22 rfl rfl) ?_
                  refine Eq.trans (jr_s (pc2 := 25) (lv2 := [(0, .ref 117), (1, .int (-2147483645))]) (st2 := [.int 20, .int (-2147483645)]) jF_267_23 rfl rfl) ?_
                  refine Eq.trans (jr_s (pc2 := 26) (lv2 := [(0, .ref 117), (1, .int (-2147483645))]) (st2 := [.int 2147483631]) jF_267_25 rfl rfl) ?_
                  refine Eq.trans (jr_s (pc2 := 27) (lv2 := [(0, .ref 117), (1, .int (-2147483645))]) (st2 := [.long 2147483631]) jF_267_26 rfl rfl) ?_
                  refine Eq.trans (jr_s (pc2 := 28) (lv2 := [(0, .ref 117), (1, .int (-2147483645))]) (st2 := [.long 0, .long 2147483631]) jF_267_27 rfl rfl) ?_
                  refine Eq.trans (jr_s (pc2 := 29) (lv2 := [(0, .ref 117), (1, .int (-2147483645))]) (st2 := [.ref 117, .long 0, .long 2147483631]) jF_267_28 rfl rfl) ?_
                  refine Eq.trans (jr_gf (v := .int 0) jF_267_29 (by decide +kernel)) ?_
                  refine Eq.trans (jr_s (pc2 := 33) (lv2 := [(0, .ref 117), (1, .int (-2147483645))]) (st2 := [.int 1, .int 0, .long 0, .long 2147483631]) jF_267_32 rfl rfl) ?_
                  refine Eq.trans (jr_s (pc2 := 34) (lv2 := [(0, .ref 117), (1, .int (-2147483645))]) (st2 := [.int (-1), .long 0, .long 2147483631]) jF_267_33 rfl rfl) ?_
                  refine Eq.trans (jr_s (pc2 := 35) (lv2 := [(0, .ref 117), (1, .int (-2147483645))]) (st2 := [.long (-1), .long 0, .long 2147483631]) jF_267_34 rfl rfl) ?_
                  refine Eq.trans (jr_cS (as := [.long 2147483631, .long 0, .long (-1)]) (rest := []) (v := some (.int 0)) (hp2 := jh2) (fr2 := 498) (lo2 := 19954) jF_267_35 rfl (show j_cnd 499 19979 498 19954 6 _ _ = true from rfl) ?_) ?_
                  · refine Eq.trans (jr_s (pc2 := 1) (lv2 := [(0, .long 2147483631), (2, .long 0), (4, .long (-1))]) (st2 := [.long 2147483631]) jF_232_0 rfl rfl) ?_
                    refine Eq.trans (jr_s (pc2 := 2) (lv2 := [(0, .long 2147483631), (2, .long 0), (4, .long (-1))]) (st2 := [.long 0, .long 2147483631]) jF_232_1 rfl rfl) ?_
                    refine Eq.trans (jr_s (pc2 := 3) (lv2 := [(0, .long 2147483631), (2, .long 0), (4, .long (-1))]) (st2 := [.int 1]) jF_232_2 rfl rfl) ?_
                    refine Eq.trans (jr_if0 jF_232_3 (by decide +kernel)) ?_
                    refine Eq.trans (jr_s (pc2 := 7) (lv2 := [(0, .long 2147483631), (2, .long 0), (4, .long (-1))]) (st2 := [.long 2147483631]) jF_232_6 rfl rfl) ?_
                    refine Eq.trans (jr_s (pc2 := 9) (lv2 := [(0, .long 2147483631), (2, .long 0), (4, .long (-1))]) (st2 := [.long (-1), .long 2147483631]) jF_232_7 rfl rfl) ?_
                    refine Eq.trans (jr_s (pc2 := 10) (lv2 := [(0, .long 2147483631), (2, .long 0), (4, .long (-1))]) (st2 := [.int 1]) jF_232_9 rfl rfl) ?_
                    refine Eq.trans (jr_if1 jF_232_10 (by decide +kernel)) ?_
                    refine Eq.trans (jr_s (pc2 := 18) (lv2 := [(0, .long 2147483631), (2, .long 0), (4, .long (-1))]) (st2 := [.int 0]) jF_232_17 rfl rfl) ?_
                    exact jr_ri jF_232_18 rfl
                  refine Eq.trans (jr_if1 jF_267_38 (by decide +kernel)) ?_
                  refine Eq.trans (jr_s (pc2 := 56) (lv2 := [(0, .ref 117), (1, .int (-2147483645))]) (st2 := [.long 0]) jF_267_55 rfl rfl) ?_
                  exact jr_rl jF_267_56
                refine Eq.trans (jr_s (pc2 := 6) (lv2 := [(3, .long 0), (0, .ref 117), (1, .int (-2147483645)), (2, .int a2)]) (st2 := []) jF_266_5 rfl rfl) ?_
                refine Eq.trans (jr_s (pc2 := 7) (lv2 := [(3, .long 0), (0, .ref 117), (1, .int (-2147483645)), (2, .int a2)]) (st2 := [.long 0]) jF_266_6 rfl rfl) ?_
                refine Eq.trans (jr_s (pc2 := 8) (lv2 := [(3, .long 0), (0, .ref 117), (1, .int (-2147483645)), (2, .int a2)]) (st2 := [.long 0, .long 0]) jF_266_7 rfl rfl) ?_
                refine Eq.trans (jr_s (pc2 := 9) (lv2 := [(3, .long 0), (0, .ref 117), (1, .int (-2147483645)), (2, .int a2)]) (st2 := [.int 0]) jF_266_8 rfl rfl) ?_
                refine Eq.trans (jr_if1 jF_266_9 (by decide +kernel)) ?_
                refine Eq.trans (jr_s (pc2 := 25) (lv2 := [(3, .long 0), (0, .ref 117), (1, .int (-2147483645)), (2, .int a2)]) (st2 := [.int (-1)]) jF_266_24 rfl rfl) ?_
                exact jr_ri jF_266_25 rfl
            · rcases j_ilt a1.toInt (-2147483643) with h_a1_2147483643m | h_a1_2147483643m
              · obtain rfl : a1 = (-2147483644) := Int32.toInt_inj.mp (by rw [show ((-2147483644) : Int32).toInt = (-2147483644) from by decide]; omega)
                refine ⟨60000, 60000, (-1), jh2, jh2, ?_, ?_, by decide +kernel⟩
                · refine Eq.trans (jr_s (pc2 := 1) (lv2 := [(0, .ref 9), (1, .int (-2147483644)), (2, .int a2)]) (st2 := [.ref 9]) jF_92_0 rfl rfl) ?_
                  refine Eq.trans (jr_gf (v := .ref 20) jF_92_1 (by decide +kernel)) ?_
                  refine Eq.trans (jr_s (pc2 := 5) (lv2 := [(0, .ref 9), (1, .int (-2147483644)), (2, .int a2)]) (st2 := [.int (-2147483644), .ref 20]) jF_92_4 rfl rfl) ?_
                  refine Eq.trans (jr_s (pc2 := 6) (lv2 := [(0, .ref 9), (1, .int (-2147483644)), (2, .int a2)]) (st2 := [.int a2, .int (-2147483644), .ref 20]) jF_92_5 rfl rfl) ?_
                  refine Eq.trans (jr_cV (a := 20) (as := [.int (-2147483644), .int a2]) (rest := []) (v := some (.int (-1))) (hp2 := jh2) (fr2 := 499) (lo2 := 19978) jF_92_6 (by decide +kernel) rfl (show j_cnd 500 20000 499 19978 3 _ _ = true from rfl) ?_) ?_
                  · refine Eq.trans (jr_s (pc2 := 1) (lv2 := [(0, .ref 20), (1, .int (-2147483644)), (2, .int a2)]) (st2 := [.int (-2147483644)]) jF_93_0 rfl rfl) ?_
                    refine Eq.trans (jr_if1 jF_93_1 (by decide +kernel)) ?_
                    refine Eq.trans (jr_s (pc2 := 33) (lv2 := [(0, .ref 20), (1, .int (-2147483644)), (2, .int a2)]) (st2 := [.int (-1)]) jF_93_32 rfl rfl) ?_
                    exact jr_ri jF_93_33 rfl
                  exact jr_ri jF_92_9 rfl
                · refine Eq.trans (jr_s (pc2 := 1) (lv2 := [(0, .ref 117), (1, .int (-2147483644)), (2, .int a2)]) (st2 := [.ref 117]) jF_266_0 rfl rfl) ?_
                  refine Eq.trans (jr_s (pc2 := 2) (lv2 := [(0, .ref 117), (1, .int (-2147483644)), (2, .int a2)]) (st2 := [.int (-2147483644), .ref 117]) jF_266_1 rfl rfl) ?_
                  refine Eq.trans (jr_cV (a := 117) (as := [.int (-2147483644)]) (rest := []) (v := some (.long 0)) (hp2 := jh2) (fr2 := 499) (lo2 := 19979) jF_266_2 (by decide +kernel) rfl (show j_cnd 500 20000 499 19979 2 _ _ = true from rfl) ?_) ?_
                  · refine Eq.trans (jr_s (pc2 := 1) (lv2 := [(0, .ref 117), (1, .int (-2147483644))]) (st2 := [.int (-2147483644)]) jF_267_0 rfl rfl) ?_
                    refine Eq.trans (jr_s (pc2 := 2) (lv2 := [(0, .ref 117), (1, .int (-2147483644))]) (st2 := [.long (-2147483644)]) jF_267_1 rfl rfl) ?_
                    refine Eq.trans (jr_s (pc2 := 3) (lv2 := [(0, .ref 117), (1, .int (-2147483644))]) (st2 := [.long 0, .long (-2147483644)]) jF_267_2 rfl rfl) ?_
                    refine Eq.trans (jr_s (pc2 := 6) (lv2 := [(0, .ref 117), (1, .int (-2147483644))]) (st2 := [.long 17, .long 0, .long (-2147483644)]) jF_267_3 rfl rfl) ?_
                    refine Eq.trans (jr_cS (as := [.long (-2147483644), .long 0, .long 17]) (rest := []) (v := some (.int 0)) (hp2 := jh2) (fr2 := 498) (lo2 := 19954) jF_267_6 rfl (show j_cnd 499 19979 498 19954 6 _ _ = true from rfl) ?_) ?_
                    · refine Eq.trans (jr_s (pc2 := 1) (lv2 := [(0, .long (-2147483644)), (2, .long 0), (4, .long 17)]) (st2 := [.long (-2147483644)]) jF_232_0 rfl rfl) ?_
                      refine Eq.trans (jr_s (pc2 := 2) (lv2 := [(0, .long (-2147483644)), (2, .long 0), (4, .long 17)]) (st2 := [.long 0, .long (-2147483644)]) jF_232_1 rfl rfl) ?_
                      refine Eq.trans (jr_s (pc2 := 3) (lv2 := [(0, .long (-2147483644)), (2, .long 0), (4, .long 17)]) (st2 := [.int (-1)]) jF_232_2 rfl rfl) ?_
                      refine Eq.trans (jr_if1 jF_232_3 (by decide +kernel)) ?_
                      refine Eq.trans (jr_s (pc2 := 18) (lv2 := [(0, .long (-2147483644)), (2, .long 0), (4, .long 17)]) (st2 := [.int 0]) jF_232_17 rfl rfl) ?_
                      exact jr_ri jF_232_18 rfl
                    refine Eq.trans (jr_if1 jF_267_9 (by decide +kernel)) ?_
                    refine Eq.trans (jr_s (pc2 := 23) (lv2 := [(0, .ref 117), (1, .int (-2147483644))]) (st2 := [.int (-2147483644)]) jF_267_22 rfl rfl) ?_
                    refine Eq.trans (jr_s (pc2 := 25) (lv2 := [(0, .ref 117), (1, .int (-2147483644))]) (st2 := [.int 20, .int (-2147483644)]) jF_267_23 rfl rfl) ?_
                    refine Eq.trans (jr_s (pc2 := 26) (lv2 := [(0, .ref 117), (1, .int (-2147483644))]) (st2 := [.int 2147483632]) jF_267_25 rfl rfl) ?_
                    refine Eq.trans (jr_s (pc2 := 27) (lv2 := [(0, .ref 117), (1, .int (-2147483644))]) (st2 := [.long 2147483632]) jF_267_26 rfl rfl) ?_
                    refine Eq.trans (jr_s (pc2 := 28) (lv2 := [(0, .ref 117), (1, .int (-2147483644))]) (st2 := [.long 0, .long 2147483632]) jF_267_27 rfl rfl) ?_
                    refine Eq.trans (jr_s (pc2 := 29) (lv2 := [(0, .ref 117), (1, .int (-2147483644))]) (st2 := [.ref 117, .long 0, .long 2147483632]) jF_267_28 rfl rfl) ?_
                    refine Eq.trans (jr_gf (v := .int 0) jF_267_29 (by decide +kernel)) ?_
                    refine Eq.trans (jr_s (pc2 := 33) (lv2 := [(0, .ref 117), (1, .int (-2147483644))]) (st2 := [.int 1, .int 0, .long 0, .long 2147483632]) jF_267_32 rfl rfl) ?_
                    refine Eq.trans (jr_s (pc2 := 34) (lv2 := [(0, .ref 117), (1, .int (-2147483644))]) (st2 := [.int (-1), .long 0, .long 2147483632]) jF_267_33 rfl rfl) ?_
                    refine Eq.trans (jr_s (pc2 := 35) (lv2 := [(0, .ref 117), (1, .int (-2147483644))]) (st2 := [.long (-1), .long 0, .long 2147483632]) jF_267_34 rfl rfl) ?_
                    refine Eq.trans (jr_cS (as := [.long 2147483632, .long 0, .long (-1)]) (rest := []) (v := some (.int 0)) (hp2 := jh2) (fr2 := 498) (lo2 := 19954) jF_267_35 rfl (show j_cnd 499 19979 498 19954 6 _ _ = true from rfl) ?_) ?_
                    · refine Eq.trans (jr_s (pc2 := 1) (lv2 := [(0, .long 2147483632), (2, .long 0), (4, .long (-1))]) (st2 := [.long 2147483632]) jF_232_0 rfl rfl) ?_
                      refine Eq.trans (jr_s (pc2 := 2) (lv2 := [(0, .long 2147483632), (2, .long 0), (4, .long (-1))]) (st2 := [.long 0, .long 2147483632]) jF_232_1 rfl rfl) ?_
                      refine Eq.trans (jr_s (pc2 := 3) (lv2 := [(0, .long 2147483632), (2, .long 0), (4, .long (-1))]) (st2 := [.int 1]) jF_232_2 rfl rfl) ?_
                      refine Eq.trans (jr_if0 jF_232_3 (by decide +kernel)) ?_
                      refine Eq.trans (jr_s (pc2 := 7) (lv2 := [(0, .long 2147483632), (2, .long 0), (4, .long (-1))]) (st2 := [.long 2147483632]) jF_232_6 rfl rfl) ?_
                      refine Eq.trans (jr_s (pc2 := 9) (lv2 := [(0, .long 2147483632), (2, .long 0), (4, .long (-1))]) (st2 := [.long (-1), .long 2147483632]) jF_232_7 rfl rfl) ?_
                      refine Eq.trans (jr_s (pc2 := 10) (lv2 := [(0, .long 2147483632), (2, .long 0), (4, .long (-1))]) (st2 := [.int 1]) jF_232_9 rfl rfl) ?_
                      refine Eq.trans (jr_if1 jF_232_10 (by decide +kernel)) ?_
                      refine Eq.trans (jr_s (pc2 := 18) (lv2 := [(0, .long 2147483632), (2, .long 0), (4, .long (-1))]) (st2 := [.int 0]) jF_232_17 rfl rfl) ?_
                      exact jr_ri jF_232_18 rfl
                    refine Eq.trans (jr_if1 jF_267_38 (by decide +kernel)) ?_
                    refine Eq.trans (jr_s (pc2 := 56) (lv2 := [(0, .ref 117), (1, .int (-2147483644))]) (st2 := [.long 0]) jF_267_55 rfl rfl) ?_
                    exact jr_rl jF_267_56
                  refine Eq.trans (jr_s (pc2 := 6) (lv2 := [(3, .long 0), (0, .ref 117), (1, .int (-2147483644)), (2, .int a2)]) (st2 := []) jF_266_5 rfl rfl) ?_
                  refine Eq.trans (jr_s (pc2 := 7) (lv2 := [(3, .long 0), (0, .ref 117), (1, .int (-2147483644)), (2, .int a2)]) (st2 := [.long 0]) jF_266_6 rfl rfl) ?_
                  refine Eq.trans (jr_s (pc2 := 8) (lv2 := [(3, .long 0), (0, .ref 117), (1, .int (-2147483644)), (2, .int a2)]) (st2 := [.long 0, .long 0]) jF_266_7 rfl rfl) ?_
                  refine Eq.trans (jr_s (pc2 := 9) (lv2 := [(3, .long 0), (0, .ref 117), (1, .int (-2147483644)), (2, .int a2)]) (st2 := [.int 0]) jF_266_8 rfl rfl) ?_
                  refine Eq.trans (jr_if1 jF_266_9 (by decide +kernel)) ?_
                  refine Eq.trans (jr_s (pc2 := 25) (lv2 := [(3, .long 0), (0, .ref 117), (1, .int (-2147483644)), (2, .int a2)]) (st2 := [.int (-1)]) jF_266_24 rfl rfl) ?_
                  exact jr_ri jF_266_25 rfl
              · rcases j_ilt a1.toInt (-2147483642) with h_a1_2147483642m | h_a1_2147483642m
                · obtain rfl : a1 = (-2147483643) := Int32.toInt_inj.mp (by rw [show ((-2147483643) : Int32).toInt = (-2147483643) from by decide]; omega)
                  refine ⟨60000, 60000, (-1), jh2, jh2, ?_, ?_, by decide +kernel⟩
                  · refine Eq.trans (jr_s (pc2 := 1) (lv2 := [(0, .ref 9), (1, .int (-2147483643)), (2, .int a2)]) (st2 := [.ref 9]) jF_92_0 rfl rfl) ?_
                    refine Eq.trans (jr_gf (v := .ref 20) jF_92_1 (by decide +kernel)) ?_
                    refine Eq.trans (jr_s (pc2 := 5) (lv2 := [(0, .ref 9), (1, .int (-2147483643)), (2, .int a2)]) (st2 := [.int (-2147483643), .ref 20]) jF_92_4 rfl rfl) ?_
                    refine Eq.trans (jr_s (pc2 := 6) (lv2 := [(0, .ref 9), (1, .int (-2147483643)), (2, .int a2)]) (st2 := [.int a2, .int (-2147483643), .ref 20]) jF_92_5 rfl rfl) ?_
                    refine Eq.trans (jr_cV (a := 20) (as := [.int (-2147483643), .int a2]) (rest := []) (v := some (.int (-1))) (hp2 := jh2) (fr2 := 499) (lo2 := 19978) jF_92_6 (by decide +kernel) rfl (show j_cnd 500 20000 499 19978 3 _ _ = true from rfl) ?_) ?_
                    · refine Eq.trans (jr_s (pc2 := 1) (lv2 := [(0, .ref 20), (1, .int (-2147483643)), (2, .int a2)]) (st2 := [.int (-2147483643)]) jF_93_0 rfl rfl) ?_
                      refine Eq.trans (jr_if1 jF_93_1 (by decide +kernel)) ?_
                      refine Eq.trans (jr_s (pc2 := 33) (lv2 := [(0, .ref 20), (1, .int (-2147483643)), (2, .int a2)]) (st2 := [.int (-1)]) jF_93_32 rfl rfl) ?_
                      exact jr_ri jF_93_33 rfl
                    exact jr_ri jF_92_9 rfl
                  · refine Eq.trans (jr_s (pc2 := 1) (lv2 := [(0, .ref 117), (1, .int (-2147483643)), (2, .int a2)]) (st2 := [.ref 117]) jF_266_0 rfl rfl) ?_
                    refine Eq.trans (jr_s (pc2 := 2) (lv2 := [(0, .ref 117), (1, .int (-2147483643)), (2, .int a2)]) (st2 := [.int (-2147483643), .ref 117]) jF_266_1 rfl rfl) ?_
                    refine Eq.trans (jr_cV (a := 117) (as := [.int (-2147483643)]) (rest := []) (v := some (.long 0)) (hp2 := jh2) (fr2 := 499) (lo2 := 19979) jF_266_2 (by decide +kernel) rfl (show j_cnd 500 20000 499 19979 2 _ _ = true from rfl) ?_) ?_
                    · refine Eq.trans (jr_s (pc2 := 1) (lv2 := [(0, .ref 117), (1, .int (-2147483643))]) (st2 := [.int (-2147483643)]) jF_267_0 rfl rfl) ?_
                      refine Eq.trans (jr_s (pc2 := 2) (lv2 := [(0, .ref 117), (1, .int (-2147483643))]) (st2 := [.long (-2147483643)]) jF_267_1 rfl rfl) ?_
                      refine Eq.trans (jr_s (pc2 := 3) (lv2 := [(0, .ref 117), (1, .int (-2147483643))]) (st2 := [.long 0, .long (-2147483643)]) jF_267_2 rfl rfl) ?_
                      refine Eq.trans (jr_s (pc2 := 6) (lv2 := [(0, .ref 117), (1, .int (-2147483643))]) (st2 := [.long 17, .long 0, .long (-2147483643)]) jF_267_3 rfl rfl) ?_
                      refine Eq.trans (jr_cS (as := [.long (-2147483643), .long 0, .long 17]) (rest := []) (v := some (.int 0)) (hp2 := jh2) (fr2 := 498) (lo2 := 19954) jF_267_6 rfl (show j_cnd 499 19979 498 19954 6 _ _ = true from rfl) ?_) ?_
                      · refine Eq.trans (jr_s (pc2 := 1) (lv2 := [(0, .long (-2147483643)), (2, .long 0), (4, .long 17)]) (st2 := [.long (-2147483643)]) jF_232_0 rfl rfl) ?_
                        refine Eq.trans (jr_s (pc2 := 2) (lv2 := [(0, .long (-2147483643)), (2, .long 0), (4, .long 17)]) (st2 := [.long 0, .long (-2147483643)]) jF_232_1 rfl rfl) ?_
                        refine Eq.trans (jr_s (pc2 := 3) (lv2 := [(0, .long (-2147483643)), (2, .long 0), (4, .long 17)]) (st2 := [.int (-1)]) jF_232_2 rfl rfl) ?_
                        refine Eq.trans (jr_if1 jF_232_3 (by decide +kernel)) ?_
                        refine Eq.trans (jr_s (pc2 := 18) (lv2 := [(0, .long (-2147483643)), (2, .long 0), (4, .long 17)]) (st2 := [.int 0]) jF_232_17 rfl rfl) ?_
                        exact jr_ri jF_232_18 rfl
                      refine Eq.trans (jr_if1 jF_267_9 (by decide +kernel)) ?_
                      refine Eq.trans (jr_s (pc2 := 23) (lv2 := [(0, .ref 117), (1, .int (-2147483643))]) (st2 := [.int (-2147483643)]) jF_267_22 rfl rfl) ?_
                      refine Eq.trans (jr_s (pc2 := 25) (lv2 := [(0, .ref 117), (1, .int (-2147483643))]) (st2 := [.int 20, .int (-2147483643)]) jF_267_23 rfl rfl) ?_
                      refine Eq.trans (jr_s (pc2 := 26) (lv2 := [(0, .ref 117), (1, .int (-2147483643))]) (st2 := [.int 2147483633]) jF_267_25 rfl rfl) ?_
                      refine Eq.trans (jr_s (pc2 := 27) (lv2 := [(0, .ref 117), (1, .int (-2147483643))]) (st2 := [.long 2147483633]) jF_267_26 rfl rfl) ?_
                      refine Eq.trans (jr_s (pc2 := 28) (lv2 := [(0, .ref 117), (1, .int (-2147483643))]) (st2 := [.long 0, .long 2147483633]) jF_267_27 rfl rfl) ?_
                      refine Eq.trans (jr_s (pc2 := 29) (lv2 := [(0, .ref 117), (1, .int (-2147483643))]) (st2 := [.ref 117, .long 0, .long 2147483633]) jF_267_28 rfl rfl) ?_
                      refine Eq.trans (jr_gf (v := .int 0) jF_267_29 (by decide +kernel)) ?_
                      refine Eq.trans (jr_s (pc2 := 33) (lv2 := [(0, .ref 117), (1, .int (-2147483643))]) (st2 := [.int 1, .int 0, .long 0, .long 2147483633]) jF_267_32 rfl rfl) ?_
                      refine Eq.trans (jr_s (pc2 := 34) (lv2 := [(0, .ref 117), (1, .int (-2147483643))]) (st2 := [.int (-1), .long 0, .long 2147483633]) jF_267_33 rfl rfl) ?_
                      refine Eq.trans (jr_s (pc2 := 35) (lv2 := [(0, .ref 117), (1, .int (-2147483643))]) (st2 := [.long (-1), .long 0, .long 2147483633]) jF_267_34 rfl rfl) ?_
                      refine Eq.trans (jr_cS (as := [.long 2147483633, .long 0, .long (-1)]) (rest := []) (v := some (.int 0)) (hp2 := jh2) (fr2 := 498) (lo2 := 19954) jF_267_35 rfl (show j_cnd 499 19979 498 19954 6 _ _ = true from rfl) ?_) ?_
                      · refine Eq.trans (jr_s (pc2 := 1) (lv2 := [(0, .long 2147483633), (2, .long 0), (4, .long (-1))]) (st2 := [.long 2147483633]) jF_232_0 rfl rfl) ?_
                        refine Eq.trans (jr_s (pc2 := 2) (lv2 := [(0, .long 2147483633), (2, .long 0), (4, .long (-1))]) (st2 := [.long 0, .long 2147483633]) jF_232_1 rfl rfl) ?_
                        refine Eq.trans (jr_s (pc2 := 3) (lv2 := [(0, .long 2147483633), (2, .long 0), (4, .long (-1))]) (st2 := [.int 1]) jF_232_2 rfl rfl) ?_
                        refine Eq.trans (jr_if0 jF_232_3 (by decide +kernel)) ?_
                        refine Eq.trans (jr_s (pc2 := 7) (lv2 := [(0, .long 2147483633), (2, .long 0), (4, .long (-1))]) (st2 := [.long 2147483633]) jF_232_6 rfl rfl) ?_
                        refine Eq.trans (jr_s (pc2 := 9) (lv2 := [(0, .long 2147483633), (2, .long 0), (4, .long (-1))]) (st2 := [.long (-1), .long 2147483633]) jF_232_7 rfl rfl) ?_
                        refine Eq.trans (jr_s (pc2 := 10) (lv2 := [(0, .long 2147483633), (2, .long 0), (4, .long (-1))]) (st2 := [.int 1]) jF_232_9 rfl rfl) ?_
                        refine Eq.trans (jr_if1 jF_232_10 (by decide +kernel)) ?_
                        refine Eq.trans (jr_s (pc2 := 18) (lv2 := [(0, .long 2147483633), (2, .long 0), (4, .long (-1))]) (st2 := [.int 0]) jF_232_17 rfl rfl) ?_
                        exact jr_ri jF_232_18 rfl
                      refine Eq.trans (jr_if1 jF_267_38 (by decide +kernel)) ?_
                      refine Eq.trans (jr_s (pc2 := 56) (lv2 := [(0, .ref 117), (1, .int (-2147483643))]) (st2 := [.long 0]) jF_267_55 rfl rfl) ?_
                      exact jr_rl jF_267_56
                    refine Eq.trans (jr_s (pc2 := 6) (lv2 := [(3, .long 0), (0, .ref 117), (1, .int (-2147483643)), (2, .int a2)]) (st2 := []) jF_266_5 rfl rfl) ?_
                    refine Eq.trans (jr_s (pc2 := 7) (lv2 := [(3, .long 0), (0, .ref 117), (1, .int (-2147483643)), (2, .int a2)]) (st2 := [.long 0]) jF_266_6 rfl rfl) ?_
                    refine Eq.trans (jr_s (pc2 := 8) (lv2 := [(3, .long 0), (0, .ref 117), (1, .int (-2147483643)), (2, .int a2)]) (st2 := [.long 0, .long 0]) jF_266_7 rfl rfl) ?_
                    refine Eq.trans (jr_s (pc2 := 9) (lv2 := [(3, .long 0), (0, .ref 117), (1, .int (-2147483643)), (2, .int a2)]) (st2 := [.int 0]) jF_266_8 rfl rfl) ?_
                    refine Eq.trans (jr_if1 jF_266_9 (by decide +kernel)) ?_
                    refine Eq.trans (jr_s (pc2 := 25) (lv2 := [(3, .long 0), (0, .ref 117), (1, .int (-2147483643)), (2, .int a2)]) (st2 := [.int (-1)]) jF_266_24 rfl rfl) ?_
                    exact jr_ri jF_266_25 rfl
                · rcases j_ilt a1.toInt (-2147483641) with h_a1_2147483641m | h_a1_2147483641m
                  · obtain rfl : a1 = (-2147483642) := Int32.toInt_inj.mp (by rw [show ((-2147483642) : Int32).toInt = (-2147483642) from by decide]; omega)
                    refine ⟨60000, 60000, (-1), jh2, jh2, ?_, ?_, by decide +kernel⟩
                    · refine Eq.trans (jr_s (pc2 := 1) (lv2 := [(0, .ref 9), (1, .int (-2147483642)), (2, .int a2)]) (st2 := [.ref 9]) jF_92_0 rfl rfl) ?_
                      refine Eq.trans (jr_gf (v := .ref 20) jF_92_1 (by decide +kernel)) ?_
                      refine Eq.trans (jr_s (pc2 := 5) (lv2 := [(0, .ref 9), (1, .int (-2147483642)), (2, .int a2)]) (st2 := [.int (-2147483642), .ref 20]) jF_92_4 rfl rfl) ?_
                      refine Eq.trans (jr_s (pc2 := 6) (lv2 := [(0, .ref 9), (1, .int (-2147483642)), (2, .int a2)]) (st2 := [.int a2, .int (-2147483642), .ref 20]) jF_92_5 rfl rfl) ?_
                      refine Eq.trans (jr_cV (a := 20) (as := [.int (-2147483642), .int a2]) (rest := []) (v := some (.int (-1))) (hp2 := jh2) (fr2 := 499) (lo2 := 19978) jF_92_6 (by decide +kernel) rfl (show j_cnd 500 20000 499 19978 3 _ _ = true from rfl) ?_) ?_
                      · refine Eq.trans (jr_s (pc2 := 1) (lv2 := [(0, .ref 20), (1, .int (-2147483642)), (2, .int a2)]) (st2 := [.int (-2147483642)]) jF_93_0 rfl rfl) ?_
                        refine Eq.trans (jr_if1 jF_93_1 (by decide +kernel)) ?_
                        refine Eq.trans (jr_s (pc2 := 33) (lv2 := [(0, .ref 20), (1, .int (-2147483642)), (2, .int a2)]) (st2 := [.int (-1)]) jF_93_32 rfl rfl) ?_
                        exact jr_ri jF_93_33 rfl
                      exact jr_ri jF_92_9 rfl
                    · refine Eq.trans (jr_s (pc2 := 1) (lv2 := [(0, .ref 117), (1, .int (-2147483642)), (2, .int a2)]) (st2 := [.ref 117]) jF_266_0 rfl rfl) ?_
                      refine Eq.trans (jr_s (pc2 := 2) (lv2 := [(0, .ref 117), (1, .int (-2147483642)), (2, .int a2)]) (st2 := [.int (-2147483642), .ref 117]) jF_266_1 rfl rfl) ?_
                      refine Eq.trans (jr_cV (a := 117) (as := [.int (-2147483642)]) (rest := []) (v := some (.long 0)) (hp2 := jh2) (fr2 := 499) (lo2 := 19979) jF_266_2 (by decide +kernel) rfl (show j_cnd 500 20000 499 19979 2 _ _ = true from rfl) ?_) ?_
                      · refine Eq.trans (jr_s (pc2 := 1) (lv2 := [(0, .ref 117), (1, .int (-2147483642))]) (st2 := [.int (-2147483642)]) jF_267_0 rfl rfl) ?_
                        refine Eq.trans (jr_s (pc2 := 2) (lv2 := [(0, .ref 117), (1, .int (-2147483642))]) (st2 := [.long (-2147483642)]) jF_267_1 rfl rfl) ?_
                        refine Eq.trans (jr_s (pc2 := 3) (lv2 := [(0, .ref 117), (1, .int (-2147483642))]) (st2 := [.long 0, .long (-2147483642)]) jF_267_2 rfl rfl) ?_
                        refine Eq.trans (jr_s (pc2 := 6) (lv2 := [(0, .ref 117), (1, .int (-2147483642))]) (st2 := [.long 17, .long 0, .long (-2147483642)]) jF_267_3 rfl rfl) ?_
                        refine Eq.trans (jr_cS (as := [.long (-2147483642), .long 0, .long 17]) (rest := []) (v := some (.int 0)) (hp2 := jh2) (fr2 := 498) (lo2 := 19954) jF_267_6 rfl (show j_cnd 499 19979 498 19954 6 _ _ = true from rfl) ?_) ?_
                        · refine Eq.trans (jr_s (pc2 := 1) (lv2 := [(0, .long (-2147483642)), (2, .long 0), (4, .long 17)]) (st2 := [.long (-2147483642)]) jF_232_0 rfl rfl) ?_
                          refine Eq.trans (jr_s (pc2 := 2) (lv2 := [(0, .long (-2147483642)), (2, .long 0), (4, .long 17)]) (st2 := [.long 0, .long (-2147483642)]) jF_232_1 rfl rfl) ?_
                          refine Eq.trans (jr_s (pc2 := 3) (lv2 := [(0, .long (-2147483642)), (2, .long 0), (4, .long 17)]) (st2 := [.int (-1)]) jF_232_2 rfl rfl) ?_
                          refine Eq.trans (jr_if1 jF_232_3 (by decide +kernel)) ?_
                          refine Eq.trans (jr_s (pc2 := 18) (lv2 := [(0, .long (-2147483642)), (2, .long 0), (4, .long 17)]) (st2 := [.int 0]) jF_232_17 rfl rfl) ?_
                          exact jr_ri jF_232_18 rfl
                        refine Eq.trans (jr_if1 jF_267_9 (by decide +kernel)) ?_
                        refine Eq.trans (jr_s (pc2 := 23) (lv2 := [(0, .ref 117), (1, .int (-2147483642))]) (st2 := [.int (-2147483642)]) jF_267_22 rfl rfl) ?_
                        refine Eq.trans (jr_s (pc2 := 25) (lv2 := [(0, .ref 117), (1, .int (-2147483642))]) (st2 := [.int 20, .int (-2147483642)]) jF_267_23 rfl rfl) ?_
                        refine Eq.trans (jr_s (pc2 := 26) (lv2 := [(0, .ref 117), (1, .int (-2147483642))]) (st2 := [.int 2147483634]) jF_267_25 rfl rfl) ?_
                        refine Eq.trans (jr_s (pc2 := 27) (lv2 := [(0, .ref 117), (1, .int (-2147483642))]) (st2 := [.long 2147483634]) jF_267_26 rfl rfl) ?_
                        refine Eq.trans (jr_s (pc2 := 28) (lv2 := [(0, .ref 117), (1, .int (-2147483642))]) (st2 := [.long 0, .long 2147483634]) jF_267_27 rfl rfl) ?_
                        refine Eq.trans (jr_s (pc2 := 29) (lv2 := [(0, .ref 117), (1, .int (-2147483642))]) (st2 := [.ref 117, .long 0, .long 2147483634]) jF_267_28 rfl rfl) ?_
                        refine Eq.trans (jr_gf (v := .int 0) jF_267_29 (by decide +kernel)) ?_
                        refine Eq.trans (jr_s (pc2 := 33) (lv2 := [(0, .ref 117), (1, .int (-2147483642))]) (st2 := [.int 1, .int 0, .long 0, .long 2147483634]) jF_267_32 rfl rfl) ?_
                        refine Eq.trans (jr_s (pc2 := 34) (lv2 := [(0, .ref 117), (1, .int (-2147483642))]) (st2 := [.int (-1), .long 0, .long 2147483634]) jF_267_33 rfl rfl) ?_
                        refine Eq.trans (jr_s (pc2 := 35) (lv2 := [(0, .ref 117), (1, .int (-2147483642))]) (st2 := [.long (-1), .long 0, .long 2147483634]) jF_267_34 rfl rfl) ?_
                        refine Eq.trans (jr_cS (as := [.long 2147483634, .long 0, .long (-1)]) (rest := []) (v := some (.int 0)) (hp2 := jh2) (fr2 := 498) (lo2 := 19954) jF_267_35 rfl (show j_cnd 499 19979 498 19954 6 _ _ = true from rfl) ?_) ?_
                        · refine Eq.trans (jr_s (pc2 := 1) (lv2 := [(0, .long 2147483634), (2, .long 0), (4, .long (-1))]) (st2 := [.long 2147483634]) jF_232_0 rfl rfl) ?_
                          refine Eq.trans (jr_s (pc2 := 2) (lv2 := [(0, .long 2147483634), (2, .long 0), (4, .long (-1))]) (st2 := [.long 0, .long 2147483634]) jF_232_1 rfl rfl) ?_
                          refine Eq.trans (jr_s (pc2 := 3) (lv2 := [(0, .long 2147483634), (2, .long 0), (4, .long (-1))]) (st2 := [.int 1]) jF_232_2 rfl rfl) ?_
                          refine Eq.trans (jr_if0 jF_232_3 (by decide +kernel)) ?_
                          refine Eq.trans (jr_s (pc2 := 7) (lv2 := [(0, .long 2147483634), (2, .long 0), (4, .long (-1))]) (st2 := [.long 2147483634]) jF_232_6 rfl rfl) ?_
                          refine Eq.trans (jr_s (pc2 := 9) (lv2 := [(0, .long 2147483634), (2, .long 0), (4, .long (-1))]) (st2 := [.long (-1), .long 2147483634]) jF_232_7 rfl rfl) ?_
                          refine Eq.trans (jr_s (pc2 := 10) (lv2 := [(0, .long 2147483634), (2, .long 0), (4, .long (-1))]) (st2 := [.int 1]) jF_232_9 rfl rfl) ?_
                          refine Eq.trans (jr_if1 jF_232_10 (by decide +kernel)) ?_
                          refine Eq.trans (jr_s (pc2 := 18) (lv2 := [(0, .long 2147483634), (2, .long 0), (4, .long (-1))]) (st2 := [.int 0]) jF_232_17 rfl rfl) ?_
                          exact jr_ri jF_232_18 rfl
                        refine Eq.trans (jr_if1 jF_267_38 (by decide +kernel)) ?_
                        refine Eq.trans (jr_s (pc2 := 56) (lv2 := [(0, .ref 117), (1, .int (-2147483642))]) (st2 := [.long 0]) jF_267_55 rfl rfl) ?_
                        exact jr_rl jF_267_56
                      refine Eq.trans (jr_s (pc2 := 6) (lv2 := [(3, .long 0), (0, .ref 117), (1, .int (-2147483642)), (2, .int a2)]) (st2 := []) jF_266_5 rfl rfl) ?_
                      refine Eq.trans (jr_s (pc2 := 7) (lv2 := [(3, .long 0), (0, .ref 117), (1, .int (-2147483642)), (2, .int a2)]) (st2 := [.long 0]) jF_266_6 rfl rfl) ?_
                      refine Eq.trans (jr_s (pc2 := 8) (lv2 := [(3, .long 0), (0, .ref 117), (1, .int (-2147483642)), (2, .int a2)]) (st2 := [.long 0, .long 0]) jF_266_7 rfl rfl) ?_
                      refine Eq.trans (jr_s (pc2 := 9) (lv2 := [(3, .long 0), (0, .ref 117), (1, .int (-2147483642)), (2, .int a2)]) (st2 := [.int 0]) jF_266_8 rfl rfl) ?_
                      refine Eq.trans (jr_if1 jF_266_9 (by decide +kernel)) ?_
                      refine Eq.trans (jr_s (pc2 := 25) (lv2 := [(3, .long 0), (0, .ref 117), (1, .int (-2147483642)), (2, .int a2)]) (st2 := [.int (-1)]) jF_266_24 rfl rfl) ?_
                      exact jr_ri jF_266_25 rfl
                  · rcases j_ilt a1.toInt (-2147483640) with h_a1_2147483640m | h_a1_2147483640m
                    · obtain rfl : a1 = (-2147483641) := Int32.toInt_inj.mp (by rw [show ((-2147483641) : Int32).toInt = (-2147483641) from by decide]; omega)
                      refine ⟨60000, 60000, (-1), jh2, jh2, ?_, ?_, by decide +kernel⟩
                      · refine Eq.trans (jr_s (pc2 := 1) (lv2 := [(0, .ref 9), (1, .int (-2147483641)), (2, .int a2)]) (st2 := [.ref 9]) jF_92_0 rfl rfl) ?_
                        refine Eq.trans (jr_gf (v := .ref 20) jF_92_1 (by decide +kernel)) ?_
                        refine Eq.trans (jr_s (pc2 := 5) (lv2 := [(0, .ref 9), (1, .int (-2147483641)), (2, .int a2)]) (st2 := [.int (-2147483641), .ref 20]) jF_92_4 rfl rfl) ?_
                        refine Eq.trans (jr_s (pc2 := 6) (lv2 := [(0, .ref 9), (1, .int (-2147483641)), (2, .int a2)]) (st2 := [.int a2, .int (-2147483641), .ref 20]) jF_92_5 rfl rfl) ?_
                        refine Eq.trans (jr_cV (a := 20) (as := [.int (-2147483641), .int a2]) (rest := []) (v := some (.int (-1))) (hp2 := jh2) (fr2 := 499) (lo2 := 19978) jF_92_6 (by decide +kernel) rfl (show j_cnd 500 20000 499 19978 3 _ _ = true from rfl) ?_) ?_
                        · refine Eq.trans (jr_s (pc2 := 1) (lv2 := [(0, .ref 20), (1, .int (-2147483641)), (2, .int a2)]) (st2 := [.int (-2147483641)]) jF_93_0 rfl rfl) ?_
                          refine Eq.trans (jr_if1 jF_93_1 (by decide +kernel)) ?_
                          refine Eq.trans (jr_s (pc2 := 33) (lv2 := [(0, .ref 20), (1, .int (-2147483641)), (2, .int a2)]) (st2 := [.int (-1)]) jF_93_32 rfl rfl) ?_
                          exact jr_ri jF_93_33 rfl
                        exact jr_ri jF_92_9 rfl
                      · refine Eq.trans (jr_s (pc2 := 1) (lv2 := [(0, .ref 117), (1, .int (-2147483641)), (2, .int a2)]) (st2 := [.ref 117]) jF_266_0 rfl rfl) ?_
                        refine Eq.trans (jr_s (pc2 := 2) (lv2 := [(0, .ref 117), (1, .int (-2147483641)), (2, .int a2)]) (st2 := [.int (-2147483641), .ref 117]) jF_266_1 rfl rfl) ?_
                        refine Eq.trans (jr_cV (a := 117) (as := [.int (-2147483641)]) (rest := []) (v := some (.long 0)) (hp2 := jh2) (fr2 := 499) (lo2 := 19979) jF_266_2 (by decide +kernel) rfl (show j_cnd 500 20000 499 19979 2 _ _ = true from rfl) ?_) ?_
                        · refine Eq.trans (jr_s (pc2 := 1) (lv2 := [(0, .ref 117), (1, .int (-2147483641))]) (st2 := [.int (-2147483641)]) jF_267_0 rfl rfl) ?_
                          refine Eq.trans (jr_s (pc2 := 2) (lv2 := [(0, .ref 117), (1, .int (-2147483641))]) (st2 := [.long (-2147483641)]) jF_267_1 rfl rfl) ?_
                          refine Eq.trans (jr_s (pc2 := 3) (lv2 := [(0, .ref 117), (1, .int (-2147483641))]) (st2 := [.long 0, .long (-2147483641)]) jF_267_2 rfl rfl) ?_
                          refine Eq.trans (jr_s (pc2 := 6) (lv2 := [(0, .ref 117), (1, .int (-2147483641))]) (st2 := [.long 17, .long 0, .long (-2147483641)]) jF_267_3 rfl rfl) ?_
                          refine Eq.trans (jr_cS (as := [.long (-2147483641), .long 0, .long 17]) (rest := []) (v := some (.int 0)) (hp2 := jh2) (fr2 := 498) (lo2 := 19954) jF_267_6 rfl (show j_cnd 499 19979 498 19954 6 _ _ = true from rfl) ?_) ?_
                          · refine Eq.trans (jr_s (pc2 := 1) (lv2 := [(0, .long (-2147483641)), (2, .long 0), (4, .long 17)]) (st2 := [.long (-2147483641)]) jF_232_0 rfl rfl) ?_
                            refine Eq.trans (jr_s (pc2 := 2) (lv2 := [(0, .long (-2147483641)), (2, .long 0), (4, .long 17)]) (st2 := [.long 0, .long (-2147483641)]) jF_232_1 rfl rfl) ?_
                            refine Eq.trans (jr_s (pc2 := 3) (lv2 := [(0, .long (-2147483641)), (2, .long 0), (4, .long 17)]) (st2 := [.int (-1)]) jF_232_2 rfl rfl) ?_
                            refine Eq.trans (jr_if1 jF_232_3 (by decide +kernel)) ?_
                            refine Eq.trans (jr_s (pc2 := 18) (lv2 := [(0, .long (-2147483641)), (2, .long 0), (4, .long 17)]) (st2 := [.int 0]) jF_232_17 rfl rfl) ?_
                            exact jr_ri jF_232_18 rfl
                          refine Eq.trans (jr_if1 jF_267_9 (by decide +kernel)) ?_
                          refine Eq.trans (jr_s (pc2 := 23) (lv2 := [(0, .ref 117), (1, .int (-2147483641))]) (st2 := [.int (-2147483641)]) jF_267_22 rfl rfl) ?_
                          refine Eq.trans (jr_s (pc2 := 25) (lv2 := [(0, .ref 117), (1, .int (-2147483641))]) (st2 := [.int 20, .int (-2147483641)]) jF_267_23 rfl rfl) ?_
                          refine Eq.trans (jr_s (pc2 := 26) (lv2 := [(0, .ref 117), (1, .int (-2147483641))]) (st2 := [.int 2147483635]) jF_267_25 rfl rfl) ?_
                          refine Eq.trans (jr_s (pc2 := 27) (lv2 := [(0, .ref 117), (1, .int (-2147483641))]) (st2 := [.long 2147483635]) jF_267_26 rfl rfl) ?_
                          refine Eq.trans (jr_s (pc2 := 28) (lv2 := [(0, .ref 117), (1, .int (-2147483641))]) (st2 := [.long 0, .long 2147483635]) jF_267_27 rfl rfl) ?_
                          refine Eq.trans (jr_s (pc2 := 29) (lv2 := [(0, .ref 117), (1, .int (-2147483641))]) (st2 := [.ref 117, .long 0, .long 2147483635]) jF_267_28 rfl rfl) ?_
                          refine Eq.trans (jr_gf (v := .int 0) jF_267_29 (by decide +kernel)) ?_
                          refine Eq.trans (jr_s (pc2 := 33) (lv2 := [(0, .ref 117), (1, .int (-2147483641))]) (st2 := [.int 1, .int 0, .long 0, .long 2147483635]) jF_267_32 rfl rfl) ?_
                          refine Eq.trans (jr_s (pc2 := 34) (lv2 := [(0, .ref 117), (1, .int (-2147483641))]) (st2 := [.int (-1), .long 0, .long 2147483635]) jF_267_33 rfl rfl) ?_
                          refine Eq.trans (jr_s (pc2 := 35) (lv2 := [(0, .ref 117), (1, .int (-2147483641))]) (st2 := [.long (-1), .long 0, .long 2147483635]) jF_267_34 rfl rfl) ?_
                          refine Eq.trans (jr_cS (as := [.long 2147483635, .long 0, .long (-1)]) (rest := []) (v := some (.int 0)) (hp2 := jh2) (fr2 := 498) (lo2 := 19954) jF_267_35 rfl (show j_cnd 499 19979 498 19954 6 _ _ = true from rfl) ?_) ?_
                          · refine Eq.trans (jr_s (pc2 := 1) (lv2 := [(0, .long 2147483635), (2, .long 0), (4, .long (-1))]) (st2 := [.long 2147483635]) jF_232_0 rfl rfl) ?_
                            refine Eq.trans (jr_s (pc2 := 2) (lv2 := [(0, .long 2147483635), (2, .long 0), (4, .long (-1))]) (st2 := [.long 0, .long 2147483635]) jF_232_1 rfl rfl) ?_
                            refine Eq.trans (jr_s (pc2 := 3) (lv2 := [(0, .long 2147483635), (2, .long 0), (4, .long (-1))]) (st2 := [.int 1]) jF_232_2 rfl rfl) ?_
                            refine Eq.trans (jr_if0 jF_232_3 (by decide +kernel)) ?_
                            refine Eq.trans (jr_s (pc2 := 7) (lv2 := [(0, .long 2147483635), (2, .long 0), (4, .long (-1))]) (st2 := [.long 2147483635]) jF_232_6 rfl rfl) ?_
                            refine Eq.trans (jr_s (pc2 := 9) (lv2 := [(0, .long 2147483635), (2, .long 0), (4, .long (-1))]) (st2 := [.long (-1), .long 2147483635]) jF_232_7 rfl rfl) ?_
                            refine Eq.trans (jr_s (pc2 := 10) (lv2 := [(0, .long 2147483635), (2, .long 0), (4, .long (-1))]) (st2 := [.int 1]) jF_232_9 rfl rfl) ?_
                            refine Eq.trans (jr_if1 jF_232_10 (by decide +kernel)) ?_
                            refine Eq.trans (jr_s (pc2 := 18) (lv2 := [(0, .long 2147483635), (2, .long 0), (4, .long (-1))]) (st2 := [.int 0]) jF_232_17 rfl rfl) ?_
                            exact jr_ri jF_232_18 rfl
                          refine Eq.trans (jr_if1 jF_267_38 (by decide +kernel)) ?_
                          refine Eq.trans (jr_s (pc2 := 56) (lv2 := [(0, .ref 117), (1, .int (-2147483641))]) (st2 := [.long 0]) jF_267_55 rfl rfl) ?_
                          exact jr_rl jF_267_56
                        refine Eq.trans (jr_s (pc2 := 6) (lv2 := [(3, .long 0), (0, .ref 117), (1, .int (-2147483641)), (2, .int a2)]) (st2 := []) jF_266_5 rfl rfl) ?_
                        refine Eq.trans (jr_s (pc2 := 7) (lv2 := [(3, .long 0), (0, .ref 117), (1, .int (-2147483641)), (2, .int a2)]) (st2 := [.long 0]) jF_266_6 rfl rfl) ?_
                        refine Eq.trans (jr_s (pc2 := 8) (lv2 := [(3, .long 0), (0, .ref 117), (1, .int (-2147483641)), (2, .int a2)]) (st2 := [.long 0, .long 0]) jF_266_7 rfl rfl) ?_
                        refine Eq.trans (jr_s (pc2 := 9) (lv2 := [(3, .long 0), (0, .ref 117), (1, .int (-2147483641)), (2, .int a2)]) (st2 := [.int 0]) jF_266_8 rfl rfl) ?_
                        refine Eq.trans (jr_if1 jF_266_9 (by decide +kernel)) ?_
                        refine Eq.trans (jr_s (pc2 := 25) (lv2 := [(3, .long 0), (0, .ref 117), (1, .int (-2147483641)), (2, .int a2)]) (st2 := [.int (-1)]) jF_266_24 rfl rfl) ?_
                        exact jr_ri jF_266_25 rfl
                    · rcases j_ilt a1.toInt (-2147483639) with h_a1_2147483639m | h_a1_2147483639m
                      · obtain rfl : a1 = (-2147483640) := Int32.toInt_inj.mp (by rw [show ((-2147483640) : Int32).toInt = (-2147483640) from by decide]; omega)
                        refine ⟨60000, 60000, (-1), jh2, jh2, ?_, ?_, by decide +kernel⟩
                        · refine Eq.trans (jr_s (pc2 := 1) (lv2 := [(0, .ref 9), (1, .int (-2147483640)), (2, .int a2)]) (st2 := [.ref 9]) jF_92_0 rfl rfl) ?_
                          refine Eq.trans (jr_gf (v := .ref 20) jF_92_1 (by decide +kernel)) ?_
                          refine Eq.trans (jr_s (pc2 := 5) (lv2 := [(0, .ref 9), (1, .int (-2147483640)), (2, .int a2)]) (st2 := [.int (-2147483640), .ref 20]) jF_92_4 rfl rfl) ?_
                          refine Eq.trans (jr_s (pc2 := 6) (lv2 := [(0, .ref 9), (1, .int (-2147483640)), (2, .int a2)]) (st2 := [.int a2, .int (-2147483640), .ref 20]) jF_92_5 rfl rfl) ?_
                          refine Eq.trans (jr_cV (a := 20) (as := [.int (-2147483640), .int a2]) (rest := []) (v := some (.int (-1))) (hp2 := jh2) (fr2 := 499) (lo2 := 19978) jF_92_6 (by decide +kernel) rfl (show j_cnd 500 20000 499 19978 3 _ _ = true from rfl) ?_) ?_
                          · refine Eq.trans (jr_s (pc2 := 1) (lv2 := [(0, .ref 20), (1, .int (-2147483640)), (2, .int a2)]) (st2 := [.int (-2147483640)]) jF_93_0 rfl rfl) ?_
                            refine Eq.trans (jr_if1 jF_93_1 (by decide +kernel)) ?_
                            refine Eq.trans (jr_s (pc2 := 33) (lv2 := [(0, .ref 20), (1, .int (-2147483640)), (2, .int a2)]) (st2 := [.int (-1)]) jF_93_32 rfl rfl) ?_
                            exact jr_ri jF_93_33 rfl
                          exact jr_ri jF_92_9 rfl
                        · refine Eq.trans (jr_s (pc2 := 1) (lv2 := [(0, .ref 117), (1, .int (-2147483640)), (2, .int a2)]) (st2 := [.ref 117]) jF_266_0 rfl rfl) ?_
                          refine Eq.trans (jr_s (pc2 := 2) (lv2 := [(0, .ref 117), (1, .int (-2147483640)), (2, .int a2)]) (st2 := [.int (-2147483640), .ref 117]) jF_266_1 rfl rfl) ?_
                          refine Eq.trans (jr_cV (a := 117) (as := [.int (-2147483640)]) (rest := []) (v := some (.long 0)) (hp2 := jh2) (fr2 := 499) (lo2 := 19979) jF_266_2 (by decide +kernel) rfl (show j_cnd 500 20000 499 19979 2 _ _ = true from rfl) ?_) ?_
                          · refine Eq.trans (jr_s (pc2 := 1) (lv2 := [(0, .ref 117), (1, .int (-2147483640))]) (st2 := [.int (-2147483640)]) jF_267_0 rfl rfl) ?_
                            refine Eq.trans (jr_s (pc2 := 2) (lv2 := [(0, .ref 117), (1, .int (-2147483640))]) (st2 := [.long (-2147483640)]) jF_267_1 rfl rfl) ?_
                            refine Eq.trans (jr_s (pc2 := 3) (lv2 := [(0, .ref 117), (1, .int (-2147483640))]) (st2 := [.long 0, .long (-2147483640)]) jF_267_2 rfl rfl) ?_
                            refine Eq.trans (jr_s (pc2 := 6) (lv2 := [(0, .ref 117), (1, .int (-2147483640))]) (st2 := [.long 17, .long 0, .long (-2147483640)]) jF_267_3 rfl rfl) ?_
                            refine Eq.trans (jr_cS (as := [.long (-2147483640), .long 0, .long 17]) (rest := []) (v := some (.int 0)) (hp2 := jh2) (fr2 := 498) (lo2 := 19954) jF_267_6 rfl (show j_cnd 499 19979 498 19954 6 _ _ = true from rfl) ?_) ?_
                            · refine Eq.trans (jr_s (pc2 := 1) (lv2 := [(0, .long (-2147483640)), (2, .long 0), (4, .long 17)]) (st2 := [.long (-2147483640)]) jF_232_0 rfl rfl) ?_
                              refine Eq.trans (jr_s (pc2 := 2) (lv2 := [(0, .long (-2147483640)), (2, .long 0), (4, .long 17)]) (st2 := [.long 0, .long (-2147483640)]) jF_232_1 rfl rfl) ?_
                              refine Eq.trans (jr_s (pc2 := 3) (lv2 := [(0, .long (-2147483640)), (2, .long 0), (4, .long 17)]) (st2 := [.int (-1)]) jF_232_2 rfl rfl) ?_
                              refine Eq.trans (jr_if1 jF_232_3 (by decide +kernel)) ?_
                              refine Eq.trans (jr_s (pc2 := 18) (lv2 := [(0, .long (-2147483640)), (2, .long 0), (4, .long 17)]) (st2 := [.int 0]) jF_232_17 rfl rfl) ?_
                              exact jr_ri jF_232_18 rfl
                            refine Eq.trans (jr_if1 jF_267_9 (by decide +kernel)) ?_
                            refine Eq.trans (jr_s (pc2 := 23) (lv2 := [(0, .ref 117), (1, .int (-2147483640))]) (st2 := [.int (-2147483640)]) jF_267_22 rfl rfl) ?_
                            refine Eq.trans (jr_s (pc2 := 25) (lv2 := [(0, .ref 117), (1, .int (-2147483640))]) (st2 := [.int 20, .int (-2147483640)]) jF_267_23 rfl rfl) ?_
                            refine Eq.trans (jr_s (pc2 := 26) (lv2 := [(0, .ref 117), (1, .int (-2147483640))]) (st2 := [.int 2147483636]) jF_267_25 rfl rfl) ?_
                            refine Eq.trans (jr_s (pc2 := 27) (lv2 := [(0, .ref 117), (1, .int (-2147483640))]) (st2 := [.long 2147483636]) jF_267_26 rfl rfl) ?_
                            refine Eq.trans (jr_s (pc2 := 28) (lv2 := [(0, .ref 117), (1, .int (-2147483640))]) (st2 := [.long 0, .long 2147483636]) jF_267_27 rfl rfl) ?_
                            refine Eq.trans (jr_s (pc2 := 29) (lv2 := [(0, .ref 117), (1, .int (-2147483640))]) (st2 := [.ref 117, .long 0, .long 2147483636]) jF_267_28 rfl rfl) ?_
                            refine Eq.trans (jr_gf (v := .int 0) jF_267_29 (by decide +kernel)) ?_
                            refine Eq.trans (jr_s (pc2 := 33) (lv2 := [(0, .ref 117), (1, .int (-2147483640))]) (st2 := [.int 1, .int 0, .long 0, .long 2147483636]) jF_267_32 rfl rfl) ?_
                            refine Eq.trans (jr_s (pc2 := 34) (lv2 := [(0, .ref 117), (1, .int (-2147483640))]) (st2 := [.int (-1), .long 0, .long 2147483636]) jF_267_33 rfl rfl) ?_
                            refine Eq.trans (jr_s (pc2 := 35) (lv2 := [(0, .ref 117), (1, .int (-2147483640))]) (st2 := [.long (-1), .long 0, .long 2147483636]) jF_267_34 rfl rfl) ?_
                            refine Eq.trans (jr_cS (as := [.long 2147483636, .long 0, .long (-1)]) (rest := []) (v := some (.int 0)) (hp2 := jh2) (fr2 := 498) (lo2 := 19954) jF_267_35 rfl (show j_cnd 499 19979 498 19954 6 _ _ = true from rfl) ?_) ?_
                            · refine Eq.trans (jr_s (pc2 := 1) (lv2 := [(0, .long 2147483636), (2, .long 0), (4, .long (-1))]) (st2 := [.long 2147483636]) jF_232_0 rfl rfl) ?_
                              refine Eq.trans (jr_s (pc2 := 2) (lv2 := [(0, .long 2147483636), (2, .long 0), (4, .long (-1))]) (st2 := [.long 0, .long 2147483636]) jF_232_1 rfl rfl) ?_
                              refine Eq.trans (jr_s (pc2 := 3) (lv2 := [(0, .long 2147483636), (2, .long 0), (4, .long (-1))]) (st2 := [.int 1]) jF_232_2 rfl rfl) ?_
                              refine Eq.trans (jr_if0 jF_232_3 (by decide +kernel)) ?_
                              refine Eq.trans (jr_s (pc2 := 7) (lv2 := [(0, .long 2147483636), (2, .long 0), (4, .long (-1))]) (st2 := [.long 2147483636]) jF_232_6 rfl rfl) ?_
                              refine Eq.trans (jr_s (pc2 := 9) (lv2 := [(0, .long 2147483636), (2, .long 0), (4, .long (-1))]) (st2 := [.long (-1), .long 2147483636]) jF_232_7 rfl rfl) ?_
                              refine Eq.trans (jr_s (pc2 := 10) (lv2 := [(0, .long 2147483636), (2, .long 0), (4, .long (-1))]) (st2 := [.int 1]) jF_232_9 rfl rfl) ?_
                              refine Eq.trans (jr_if1 jF_232_10 (by decide +kernel)) ?_
                              refine Eq.trans (jr_s (pc2 := 18) (lv2 := [(0, .long 2147483636), (2, .long 0), (4, .long (-1))]) (st2 := [.int 0]) jF_232_17 rfl rfl) ?_
                              exact jr_ri jF_232_18 rfl
                            refine Eq.trans (jr_if1 jF_267_38 (by decide +kernel)) ?_
                            refine Eq.trans (jr_s (pc2 := 56) (lv2 := [(0, .ref 117), (1, .int (-2147483640))]) (st2 := [.long 0]) jF_267_55 rfl rfl) ?_
                            exact jr_rl jF_267_56
                          refine Eq.trans (jr_s (pc2 := 6) (lv2 := [(3, .long 0), (0, .ref 117), (1, .int (-2147483640)), (2, .int a2)]) (st2 := []) jF_266_5 rfl rfl) ?_
                          refine Eq.trans (jr_s (pc2 := 7) (lv2 := [(3, .long 0), (0, .ref 117), (1, .int (-2147483640)), (2, .int a2)]) (st2 := [.long 0]) jF_266_6 rfl rfl) ?_
                          refine Eq.trans (jr_s (pc2 := 8) (lv2 := [(3, .long 0), (0, .ref 117), (1, .int (-2147483640)), (2, .int a2)]) (st2 := [.long 0, .long 0]) jF_266_7 rfl rfl) ?_
                          refine Eq.trans (jr_s (pc2 := 9) (lv2 := [(3, .long 0), (0, .ref 117), (1, .int (-2147483640)), (2, .int a2)]) (st2 := [.int 0]) jF_266_8 rfl rfl) ?_
                          refine Eq.trans (jr_if1 jF_266_9 (by decide +kernel)) ?_
                          refine Eq.trans (jr_s (pc2 := 25) (lv2 := [(3, .long 0), (0, .ref 117), (1, .int (-2147483640)), (2, .int a2)]) (st2 := [.int (-1)]) jF_266_24 rfl rfl) ?_
                          exact jr_ri jF_266_25 rfl
                      · rcases j_ilt a1.toInt (-2147483638) with h_a1_2147483638m | h_a1_2147483638m
                        · obtain rfl : a1 = (-2147483639) := Int32.toInt_inj.mp (by rw [show ((-2147483639) : Int32).toInt = (-2147483639) from by decide]; omega)
                          refine ⟨60000, 60000, (-1), jh2, jh2, ?_, ?_, by decide +kernel⟩
                          · refine Eq.trans (jr_s (pc2 := 1) (lv2 := [(0, .ref 9), (1, .int (-2147483639)), (2, .int a2)]) (st2 := [.ref 9]) jF_92_0 rfl rfl) ?_
                            refine Eq.trans (jr_gf (v := .ref 20) jF_92_1 (by decide +kernel)) ?_
                            refine Eq.trans (jr_s (pc2 := 5) (lv2 := [(0, .ref 9), (1, .int (-2147483639)), (2, .int a2)]) (st2 := [.int (-2147483639), .ref 20]) jF_92_4 rfl rfl) ?_
                            refine Eq.trans (jr_s (pc2 := 6) (lv2 := [(0, .ref 9), (1, .int (-2147483639)), (2, .int a2)]) (st2 := [.int a2, .int (-2147483639), .ref 20]) jF_92_5 rfl rfl) ?_
                            refine Eq.trans (jr_cV (a := 20) (as := [.int (-2147483639), .int a2]) (rest := []) (v := some (.int (-1))) (hp2 := jh2) (fr2 := 499) (lo2 := 19978) jF_92_6 (by decide +kernel) rfl (show j_cnd 500 20000 499 19978 3 _ _ = true from rfl) ?_) ?_
                            · refine Eq.trans (jr_s (pc2 := 1) (lv2 := [(0, .ref 20), (1, .int (-2147483639)), (2, .int a2)]) (st2 := [.int (-2147483639)]) jF_93_0 rfl rfl) ?_
                              refine Eq.trans (jr_if1 jF_93_1 (by decide +kernel)) ?_
                              refine Eq.trans (jr_s (pc2 := 33) (lv2 := [(0, .ref 20), (1, .int (-2147483639)), (2, .int a2)]) (st2 := [.int (-1)]) jF_93_32 rfl rfl) ?_
                              exact jr_ri jF_93_33 rfl
                            exact jr_ri jF_92_9 rfl
                          · refine Eq.trans (jr_s (pc2 := 1) (lv2 := [(0, .ref 117), (1, .int (-2147483639)), (2, .int a2)]) (st2 := [.ref 117]) jF_266_0 rfl rfl) ?_
                            refine Eq.trans (jr_s (pc2 := 2) (lv2 := [(0, .ref 117), (1, .int (-2147483639)), (2, .int a2)]) (st2 := [.int (-2147483639), .ref 117]) jF_266_1 rfl rfl) ?_
                            refine Eq.trans (jr_cV (a := 117) (as := [.int (-2147483639)]) (rest := []) (v := some (.long 0)) (hp2 := jh2) (fr2 := 499) (lo2 := 19979) jF_266_2 (by decide +kernel) rfl (show j_cnd 500 20000 499 19979 2 _ _ = true from rfl) ?_) ?_
                            · refine Eq.trans (jr_s (pc2 := 1) (lv2 := [(0, .ref 117), (1, .int (-2147483639))]) (st2 := [.int (-2147483639)]) jF_267_0 rfl rfl) ?_
                              refine Eq.trans (jr_s (pc2 := 2) (lv2 := [(0, .ref 117), (1, .int (-2147483639))]) (st2 := [.long (-2147483639)]) jF_267_1 rfl rfl) ?_
                              refine Eq.trans (jr_s (pc2 := 3) (lv2 := [(0, .ref 117), (1, .int (-2147483639))]) (st2 := [.long 0, .long (-2147483639)]) jF_267_2 rfl rfl) ?_
                              refine Eq.trans (jr_s (pc2 := 6) (lv2 := [(0, .ref 117), (1, .int (-2147483639))]) (st2 := [.long 17, .long 0, .long (-2147483639)]) jF_267_3 rfl rfl) ?_
                              refine Eq.trans (jr_cS (as := [.long (-2147483639), .long 0, .long 17]) (rest := []) (v := some (.int 0)) (hp2 := jh2) (fr2 := 498) (lo2 := 19954) jF_267_6 rfl (show j_cnd 499 19979 498 19954 6 _ _ = true from rfl) ?_) ?_
                              · refine Eq.trans (jr_s (pc2 := 1) (lv2 := [(0, .long (-2147483639)), (2, .long 0), (4, .long 17)]) (st2 := [.long (-2147483639)]) jF_232_0 rfl rfl) ?_
                                refine Eq.trans (jr_s (pc2 := 2) (lv2 := [(0, .long (-2147483639)), (2, .long 0), (4, .long 17)]) (st2 := [.long 0, .long (-2147483639)]) jF_232_1 rfl rfl) ?_
                                refine Eq.trans (jr_s (pc2 := 3) (lv2 := [(0, .long (-2147483639)), (2, .long 0), (4, .long 17)]) (st2 := [.int (-1)]) jF_232_2 rfl rfl) ?_
                                refine Eq.trans (jr_if1 jF_232_3 (by decide +kernel)) ?_
                                refine Eq.trans (jr_s (pc2 := 18) (lv2 := [(0, .long (-2147483639)), (2, .long 0), (4, .long 17)]) (st2 := [.int 0]) jF_232_17 rfl rfl) ?_
                                exact jr_ri jF_232_18 rfl
                              refine Eq.trans (jr_if1 jF_267_9 (by decide +kernel)) ?_
                              refine Eq.trans (jr_s (pc2 := 23) (lv2 := [(0, .ref 117), (1, .int (-2147483639))]) (st2 := [.int (-2147483639)]) jF_267_22 rfl rfl) ?_
                              refine Eq.trans (jr_s (pc2 := 25) (lv2 := [(0, .ref 117), (1, .int (-2147483639))]) (st2 := [.int 20, .int (-2147483639)]) jF_267_23 rfl rfl) ?_
                              refine Eq.trans (jr_s (pc2 := 26) (lv2 := [(0, .ref 117), (1, .int (-2147483639))]) (st2 := [.int 2147483637]) jF_267_25 rfl rfl) ?_
                              refine Eq.trans (jr_s (pc2 := 27) (lv2 := [(0, .ref 117), (1, .int (-2147483639))]) (st2 := [.long 2147483637]) jF_267_26 rfl rfl) ?_
                              refine Eq.trans (jr_s (pc2 := 28) (lv2 := [(0, .ref 117), (1, .int (-2147483639))]) (st2 := [.long 0, .long 2147483637]) jF_267_27 rfl rfl) ?_
                              refine Eq.trans (jr_s (pc2 := 29) (lv2 := [(0, .ref 117), (1, .int (-2147483639))]) (st2 := [.ref 117, .long 0, .long 2147483637]) jF_267_28 rfl rfl) ?_
                              refine Eq.trans (jr_gf (v := .int 0) jF_267_29 (by decide +kernel)) ?_
                              refine Eq.trans (jr_s (pc2 := 33) (lv2 := [(0, .ref 117), (1, .int (-2147483639))]) (st2 := [.int 1, .int 0, .long 0, .long 2147483637]) jF_267_32 rfl rfl) ?_
                              refine Eq.trans (jr_s (pc2 := 34) (lv2 := [(0, .ref 117), (1, .int (-2147483639))]) (st2 := [.int (-1), .long 0, .long 2147483637]) jF_267_33 rfl rfl) ?_
                              refine Eq.trans (jr_s (pc2 := 35) (lv2 := [(0, .ref 117), (1, .int (-2147483639))]) (st2 := [.long (-1), .long 0, .long 2147483637]) jF_267_34 rfl rfl) ?_
                              refine Eq.trans (jr_cS (as := [.long 2147483637, .long 0, .long (-1)]) (rest := []) (v := some (.int 0)) (hp2 := jh2) (fr2 := 498) (lo2 := 19954) jF_267_35 rfl (show j_cnd 499 19979 498 19954 6 _ _ = true from rfl) ?_) ?_
                              · refine Eq.trans (jr_s (pc2 := 1) (lv2 := [(0, .long 2147483637), (2, .long 0), (4, .long (-1))]) (st2 := [.long 2147483637]) jF_232_0 rfl rfl) ?_
                                refine Eq.trans (jr_s (pc2 := 2) (lv2 := [(0, .long 2147483637), (2, .long 0), (4, .long (-1))]) (st2 := [.long 0, .long 2147483637]) jF_232_1 rfl rfl) ?_
                                refine Eq.trans (jr_s (pc2 := 3) (lv2 := [(0, .long 2147483637), (2, .long 0), (4, .long (-1))]) (st2 := [.int 1]) jF_232_2 rfl rfl) ?_
                                refine Eq.trans (jr_if0 jF_232_3 (by decide +kernel)) ?_
                                refine Eq.trans (jr_s (pc2 := 7) (lv2 := [(0, .long 2147483637), (2, .long 0), (4, .long (-1))]) (st2 := [.long 2147483637]) jF_232_6 rfl rfl) ?_
                                refine Eq.trans (jr_s (pc2 := 9) (lv2 := [(0, .long 2147483637), (2, .long 0), (4, .long (-1))]) (st2 := [.long (-1), .long 2147483637]) jF_232_7 rfl rfl) ?_
                                refine Eq.trans (jr_s (pc2 := 10) (lv2 := [(0, .long 2147483637), (2, .long 0), (4, .long (-1))]) (st2 := [.int 1]) jF_232_9 rfl rfl) ?_
                                refine Eq.trans (jr_if1 jF_232_10 (by decide +kernel)) ?_
                                refine Eq.trans (jr_s (pc2 := 18) (lv2 := [(0, .long 2147483637), (2, .long 0), (4, .long (-1))]) (st2 := [.int 0]) jF_232_17 rfl rfl) ?_
                                exact jr_ri jF_232_18 rfl
                              refine Eq.trans (jr_if1 jF_267_38 (by decide +kernel)) ?_
                              refine Eq.trans (jr_s (pc2 := 56) (lv2 := [(0, .ref 117), (1, .int (-2147483639))]) (st2 := [.long 0]) jF_267_55 rfl rfl) ?_
                              exact jr_rl jF_267_56
                            refine Eq.trans (jr_s (pc2 := 6) (lv2 := [(3, .long 0), (0, .ref 117), (1, .int (-2147483639)), (2, .int a2)]) (st2 := []) jF_266_5 rfl rfl) ?_
                            refine Eq.trans (jr_s (pc2 := 7) (lv2 := [(3, .long 0), (0, .ref 117), (1, .int (-2147483639)), (2, .int a2)]) (st2 := [.long 0]) jF_266_6 rfl rfl) ?_
                            refine Eq.trans (jr_s (pc2 := 8) (lv2 := [(3, .long 0), (0, .ref 117), (1, .int (-2147483639)), (2, .int a2)]) (st2 := [.long 0, .long 0]) jF_266_7 rfl rfl) ?_
                            refine Eq.trans (jr_s (pc2 := 9) (lv2 := [(3, .long 0), (0, .ref 117), (1, .int (-2147483639)), (2, .int a2)]) (st2 := [.int 0]) jF_266_8 rfl rfl) ?_
                            refine Eq.trans (jr_if1 jF_266_9 (by decide +kernel)) ?_
                            refine Eq.trans (jr_s (pc2 := 25) (lv2 := [(3, .long 0), (0, .ref 117), (1, .int (-2147483639)), (2, .int a2)]) (st2 := [.int (-1)]) jF_266_24 rfl rfl) ?_
                            exact jr_ri jF_266_25 rfl
                        · rcases j_ilt a1.toInt (-2147483637) with h_a1_2147483637m | h_a1_2147483637m
                          · obtain rfl : a1 = (-2147483638) := Int32.toInt_inj.mp (by rw [show ((-2147483638) : Int32).toInt = (-2147483638) from by decide]; omega)
                            refine ⟨60000, 60000, (-1), jh2, jh2, ?_, ?_, by decide +kernel⟩
                            · refine Eq.trans (jr_s (pc2 := 1) (lv2 := [(0, .ref 9), (1, .int (-2147483638)), (2, .int a2)]) (st2 := [.ref 9]) jF_92_0 rfl rfl) ?_
                              refine Eq.trans (jr_gf (v := .ref 20) jF_92_1 (by decide +kernel)) ?_
                              refine Eq.trans (jr_s (pc2 := 5) (lv2 := [(0, .ref 9), (1, .int (-2147483638)), (2, .int a2)]) (st2 := [.int (-2147483638), .ref 20]) jF_92_4 rfl rfl) ?_
                              refine Eq.trans (jr_s (pc2 := 6) (lv2 := [(0, .ref 9), (1, .int (-2147483638)), (2, .int a2)]) (st2 := [.int a2, .int (-2147483638), .ref 20]) jF_92_5 rfl rfl) ?_
                              refine Eq.trans (jr_cV (a := 20) (as := [.int (-2147483638), .int a2]) (rest := []) (v := some (.int (-1))) (hp2 := jh2) (fr2 := 499) (lo2 := 19978) jF_92_6 (by decide +kernel) rfl (show j_cnd 500 20000 499 19978 3 _ _ = true from rfl) ?_) ?_
                              · refine Eq.trans (jr_s (pc2 := 1) (lv2 := [(0, .ref 20), (1, .int (-2147483638)), (2, .int a2)]) (st2 := [.int (-2147483638)]) jF_93_0 rfl rfl) ?_
                                refine Eq.trans (jr_if1 jF_93_1 (by decide +kernel)) ?_
                                refine Eq.trans (jr_s (pc2 := 33) (lv2 := [(0, .ref 20), (1, .int (-2147483638)), (2, .int a2)]) (st2 := [.int (-1)]) jF_93_32 rfl rfl) ?_
                                exact jr_ri jF_93_33 rfl
                              exact jr_ri jF_92_9 rfl
                            · refine Eq.trans (jr_s (pc2 := 1) (lv2 := [(0, .ref 117), (1, .int (-2147483638)), (2, .int a2)]) (st2 := [.ref 117]) jF_266_0 rfl rfl) ?_
                              refine Eq.trans (jr_s (pc2 := 2) (lv2 := [(0, .ref 117), (1, .int (-2147483638)), (2, .int a2)]) (st2 := [.int (-2147483638), .ref 117]) jF_266_1 rfl rfl) ?_
                              refine Eq.trans (jr_cV (a := 117) (as := [.int (-2147483638)]) (rest := []) (v := some (.long 0)) (hp2 := jh2) (fr2 := 499) (lo2 := 19979) jF_266_2 (by decide +kernel) rfl (show j_cnd 500 20000 499 19979 2 _ _ = true from rfl) ?_) ?_
                              · refine Eq.trans (jr_s (pc2 := 1) (lv2 := [(0, .ref 117), (1, .int (-2147483638))]) (st2 := [.int (-2147483638)]) jF_267_0 rfl rfl) ?_
                                refine Eq.trans (jr_s (pc2 := 2) (lv2 := [(0, .ref 117), (1, .int (-2147483638))]) (st2 := [.long (-2147483638)]) jF_267_1 rfl rfl) ?_
                                refine Eq.trans (jr_s (pc2 := 3) (lv2 := [(0, .ref 117), (1, .int (-2147483638))]) (st2 := [.long 0, .long (-2147483638)]) jF_267_2 rfl rfl) ?_
                                refine Eq.trans (jr_s (pc2 := 6) (lv2 := [(0, .ref 117), (1, .int (-2147483638))]) (st2 := [.long 17, .long 0, .long (-2147483638)]) jF_267_3 rfl rfl) ?_
                                refine Eq.trans (jr_cS (as := [.long (-2147483638), .long 0, .long 17]) (rest := []) (v := some (.int 0)) (hp2 := jh2) (fr2 := 498) (lo2 := 19954) jF_267_6 rfl (show j_cnd 499 19979 498 19954 6 _ _ = true from rfl) ?_) ?_
                                · refine Eq.trans (jr_s (pc2 := 1) (lv2 := [(0, .long (-2147483638)), (2, .long 0), (4, .long 17)]) (st2 := [.long (-2147483638)]) jF_232_0 rfl rfl) ?_
                                  refine Eq.trans (jr_s (pc2 := 2) (lv2 := [(0, .long (-2147483638)), (2, .long 0), (4, .long 17)]) (st2 := [.long 0, .long (-2147483638)]) jF_232_1 rfl rfl) ?_
                                  refine Eq.trans (jr_s (pc2 := 3) (lv2 := [(0, .long (-2147483638)), (2, .long 0), (4, .long 17)]) (st2 := [.int (-1)]) jF_232_2 rfl rfl) ?_
                                  refine Eq.trans (jr_if1 jF_232_3 (by decide +kernel)) ?_
                                  refine Eq.trans (jr_s (pc2 := 18) (lv2 := [(0, .long (-2147483638)), (2, .long 0), (4, .long 17)]) (st2 := [.int 0]) jF_232_17 rfl rfl) ?_
                                  exact jr_ri jF_232_18 rfl
                                refine Eq.trans (jr_if1 jF_267_9 (by decide +kernel)) ?_
                                refine Eq.trans (jr_s (pc2 := 23) (lv2 := [(0, .ref 117), (1, .int (-2147483638))]) (st2 := [.int (-2147483638)]) jF_267_22 rfl rfl) ?_
                                refine Eq.trans (jr_s (pc2 := 25) (lv2 := [(0, .ref 117), (1, .int (-2147483638))]) (st2 := [.int 20, .int (-2147483638)]) jF_267_23 rfl rfl) ?_
                                refine Eq.trans (jr_s (pc2 := 26) (lv2 := [(0, .ref 117), (1, .int (-2147483638))]) (st2 := [.int 2147483638]) jF_267_25 rfl rfl) ?_
                                refine Eq.trans (jr_s (pc2 := 27) (lv2 := [(0, .ref 117), (1, .int (-2147483638))]) (st2 := [.long 2147483638]) jF_267_26 rfl rfl) ?_
                                refine Eq.trans (jr_s (pc2 := 28) (lv2 := [(0, .ref 117), (1, .int (-2147483638))]) (st2 := [.long 0, .long 2147483638]) jF_267_27 rfl rfl) ?_
                                refine Eq.trans (jr_s (pc2 := 29) (lv2 := [(0, .ref 117), (1, .int (-2147483638))]) (st2 := [.ref 117, .long 0, .long 2147483638]) jF_267_28 rfl rfl) ?_
                                refine Eq.trans (jr_gf (v := .int 0) jF_267_29 (by decide +kernel)) ?_
                                refine Eq.trans (jr_s (pc2 := 33) (lv2 := [(0, .ref 117), (1, .int (-2147483638))]) (st2 := [.int 1, .int 0, .long 0, .long 2147483638]) jF_267_32 rfl rfl) ?_
                                refine Eq.trans (jr_s (pc2 := 34) (lv2 := [(0, .ref 117), (1, .int (-2147483638))]) (st2 := [.int (-1), .long 0, .long 2147483638]) jF_267_33 rfl rfl) ?_
                                refine Eq.trans (jr_s (pc2 := 35) (lv2 := [(0, .ref 117), (1, .int (-2147483638))]) (st2 := [.long (-1), .long 0, .long 2147483638]) jF_267_34 rfl rfl) ?_
                                refine Eq.trans (jr_cS (as := [.long 2147483638, .long 0, .long (-1)]) (rest := []) (v := some (.int 0)) (hp2 := jh2) (fr2 := 498) (lo2 := 19954) jF_267_35 rfl (show j_cnd 499 19979 498 19954 6 _ _ = true from rfl) ?_) ?_
                                · refine Eq.trans (jr_s (pc2 := 1) (lv2 := [(0, .long 2147483638), (2, .long 0), (4, .long (-1))]) (st2 := [.long 2147483638]) jF_232_0 rfl rfl) ?_
                                  refine Eq.trans (jr_s (pc2 := 2) (lv2 := [(0, .long 2147483638), (2, .long 0), (4, .long (-1))]) (st2 := [.long 0, .long 2147483638]) jF_232_1 rfl rfl) ?_
                                  refine Eq.trans (jr_s (pc2 := 3) (lv2 := [(0, .long 2147483638), (2, .long 0), (4, .long (-1))]) (st2 := [.int 1]) jF_232_2 rfl rfl) ?_
                                  refine Eq.trans (jr_if0 jF_232_3 (by decide +kernel)) ?_
                                  refine Eq.trans (jr_s (pc2 := 7) (lv2 := [(0, .long 2147483638), (2, .long 0), (4, .long (-1))]) (st2 := [.long 2147483638]) jF_232_6 rfl rfl) ?_
                                  refine Eq.trans (jr_s (pc2 := 9) (lv2 := [(0, .long 2147483638), (2, .long 0), (4, .long (-1))]) (st2 := [.long (-1), .long 2147483638]) jF_232_7 rfl rfl) ?_
                                  refine Eq.trans (jr_s (pc2 := 10) (lv2 := [(0, .long 2147483638), (2, .long 0), (4, .long (-1))]) (st2 := [.int 1]) jF_232_9 rfl rfl) ?_
                                  refine Eq.trans (jr_if1 jF_232_10 (by decide +kernel)) ?_
                                  refine Eq.trans (jr_s (pc2 := 18) (lv2 := [(0, .long 2147483638), (2, .long 0), (4, .long (-1))]) (st2 := [.int 0]) jF_232_17 rfl rfl) ?_
                                  exact jr_ri jF_232_18 rfl
                                refine Eq.trans (jr_if1 jF_267_38 (by decide +kernel)) ?_
                                refine Eq.trans (jr_s (pc2 := 56) (lv2 := [(0, .ref 117), (1, .int (-2147483638))]) (st2 := [.long 0]) jF_267_55 rfl rfl) ?_
                                exact jr_rl jF_267_56
                              refine Eq.trans (jr_s (pc2 := 6) (lv2 := [(3, .long 0), (0, .ref 117), (1, .int (-2147483638)), (2, .int a2)]) (st2 := []) jF_266_5 rfl rfl) ?_
                              refine Eq.trans (jr_s (pc2 := 7) (lv2 := [(3, .long 0), (0, .ref 117), (1, .int (-2147483638)), (2, .int a2)]) (st2 := [.long 0]) jF_266_6 rfl rfl) ?_
                              refine Eq.trans (jr_s (pc2 := 8) (lv2 := [(3, .long 0), (0, .ref 117), (1, .int (-2147483638)), (2, .int a2)]) (st2 := [.long 0, .long 0]) jF_266_7 rfl rfl) ?_
                              refine Eq.trans (jr_s (pc2 := 9) (lv2 := [(3, .long 0), (0, .ref 117), (1, .int (-2147483638)), (2, .int a2)]) (st2 := [.int 0]) jF_266_8 rfl rfl) ?_
                              refine Eq.trans (jr_if1 jF_266_9 (by decide +kernel)) ?_
                              refine Eq.trans (jr_s (pc2 := 25) (lv2 := [(3, .long 0), (0, .ref 117), (1, .int (-2147483638)), (2, .int a2)]) (st2 := [.int (-1)]) jF_266_24 rfl rfl) ?_
                              exact jr_ri jF_266_25 rfl
                          · rcases j_ilt a1.toInt (-2147483636) with h_a1_2147483636m | h_a1_2147483636m
                            · obtain rfl : a1 = (-2147483637) := Int32.toInt_inj.mp (by rw [show ((-2147483637) : Int32).toInt = (-2147483637) from by decide]; omega)
                              refine ⟨60000, 60000, (-1), jh2, jh2, ?_, ?_, by decide +kernel⟩
                              · refine Eq.trans (jr_s (pc2 := 1) (lv2 := [(0, .ref 9), (1, .int (-2147483637)), (2, .int a2)]) (st2 := [.ref 9]) jF_92_0 rfl rfl) ?_
                                refine Eq.trans (jr_gf (v := .ref 20) jF_92_1 (by decide +kernel)) ?_
                                refine Eq.trans (jr_s (pc2 := 5) (lv2 := [(0, .ref 9), (1, .int (-2147483637)), (2, .int a2)]) (st2 := [.int (-2147483637), .ref 20]) jF_92_4 rfl rfl) ?_
                                refine Eq.trans (jr_s (pc2 := 6) (lv2 := [(0, .ref 9), (1, .int (-2147483637)), (2, .int a2)]) (st2 := [.int a2, .int (-2147483637), .ref 20]) jF_92_5 rfl rfl) ?_
                                refine Eq.trans (jr_cV (a := 20) (as := [.int (-2147483637), .int a2]) (rest := []) (v := some (.int (-1))) (hp2 := jh2) (fr2 := 499) (lo2 := 19978) jF_92_6 (by decide +kernel) rfl (show j_cnd 500 20000 499 19978 3 _ _ = true from rfl) ?_) ?_
                                · refine Eq.trans (jr_s (pc2 := 1) (lv2 := [(0, .ref 20), (1, .int (-2147483637)), (2, .int a2)]) (st2 := [.int (-2147483637)]) jF_93_0 rfl rfl) ?_
                                  refine Eq.trans (jr_if1 jF_93_1 (by decide +kernel)) ?_
                                  refine Eq.trans (jr_s (pc2 := 33) (lv2 := [(0, .ref 20), (1, .int (-2147483637)), (2, .int a2)]) (st2 := [.int (-1)]) jF_93_32 rfl rfl) ?_
                                  exact jr_ri jF_93_33 rfl
                                exact jr_ri jF_92_9 rfl
                              · refine Eq.trans (jr_s (pc2 := 1) (lv2 := [(0, .ref 117), (1, .int (-2147483637)), (2, .int a2)]) (st2 := [.ref 117]) jF_266_0 rfl rfl) ?_
                                refine Eq.trans (jr_s (pc2 := 2) (lv2 := [(0, .ref 117), (1, .int (-2147483637)), (2, .int a2)]) (st2 := [.int (-2147483637), .ref 117]) jF_266_1 rfl rfl) ?_
                                refine Eq.trans (jr_cV (a := 117) (as := [.int (-2147483637)]) (rest := []) (v := some (.long 0)) (hp2 := jh2) (fr2 := 499) (lo2 := 19979) jF_266_2 (by decide +kernel) rfl (show j_cnd 500 20000 499 19979 2 _ _ = true from rfl) ?_) ?_
                                · refine Eq.trans (jr_s (pc2 := 1) (lv2 := [(0, .ref 117), (1, .int (-2147483637))]) (st2 := [.int (-2147483637)]) jF_267_0 rfl rfl) ?_
                                  refine Eq.trans (jr_s (pc2 := 2) (lv2 := [(0, .ref 117), (1, .int (-2147483637))]) (st2 := [.long (-2147483637)]) jF_267_1 rfl rfl) ?_
                                  refine Eq.trans (jr_s (pc2 := 3) (lv2 := [(0, .ref 117), (1, .int (-2147483637))]) (st2 := [.long 0, .long (-2147483637)]) jF_267_2 rfl rfl) ?_
                                  refine Eq.trans (jr_s (pc2 := 6) (lv2 := [(0, .ref 117), (1, .int (-2147483637))]) (st2 := [.long 17, .long 0, .long (-2147483637)]) jF_267_3 rfl rfl) ?_
                                  refine Eq.trans (jr_cS (as := [.long (-2147483637), .long 0, .long 17]) (rest := []) (v := some (.int 0)) (hp2 := jh2) (fr2 := 498) (lo2 := 19954) jF_267_6 rfl (show j_cnd 499 19979 498 19954 6 _ _ = true from rfl) ?_) ?_
                                  · refine Eq.trans (jr_s (pc2 := 1) (lv2 := [(0, .long (-2147483637)), (2, .long 0), (4, .long 17)]) (st2 := [.long (-2147483637)]) jF_232_0 rfl rfl) ?_
                                    refine Eq.trans (jr_s (pc2 := 2) (lv2 := [(0, .long (-2147483637)), (2, .long 0), (4, .long 17)]) (st2 := [.long 0, .long (-2147483637)]) jF_232_1 rfl rfl) ?_
                                    refine Eq.trans (jr_s (pc2 := 3) (lv2 := [(0, .long (-2147483637)), (2, .long 0), (4, .long 17)]) (st2 := [.int (-1)]) jF_232_2 rfl rfl) ?_
                                    refine Eq.trans (jr_if1 jF_232_3 (by decide +kernel)) ?_
                                    refine Eq.trans (jr_s (pc2 := 18) (lv2 := [(0, .long (-2147483637)), (2, .long 0), (4, .long 17)]) (st2 := [.int 0]) jF_232_17 rfl rfl) ?_
                                    exact jr_ri jF_232_18 rfl
                                  refine Eq.trans (jr_if1 jF_267_9 (by decide +kernel)) ?_
                                  refine Eq.trans (jr_s (pc2 := 23) (lv2 := [(0, .ref 117), (1, .int (-2147483637))]) (st2 := [.int (-2147483637)]) jF_267_22 rfl rfl) ?_
                                  refine Eq.trans (jr_s (pc2 := 25) (lv2 := [(0, .ref 117), (1, .int (-2147483637))]) (st2 := [.int 20, .int (-2147483637)]) jF_267_23 rfl rfl) ?_
                                  refine Eq.trans (jr_s (pc2 := 26) (lv2 := [(0, .ref 117), (1, .int (-2147483637))]) (st2 := [.int 2147483639]) jF_267_25 rfl rfl) ?_
                                  refine Eq.trans (jr_s (pc2 := 27) (lv2 := [(0, .ref 117), (1, .int (-2147483637))]) (st2 := [.long 2147483639]) jF_267_26 rfl rfl) ?_
                                  refine Eq.trans (jr_s (pc2 := 28) (lv2 := [(0, .ref 117), (1, .int (-2147483637))]) (st2 := [.long 0, .long 2147483639]) jF_267_27 rfl rfl) ?_
                                  refine Eq.trans (jr_s (pc2 := 29) (lv2 := [(0, .ref 117), (1, .int (-2147483637))]) (st2 := [.ref 117, .long 0, .long 2147483639]) jF_267_28 rfl rfl) ?_
                                  refine Eq.trans (jr_gf (v := .int 0) jF_267_29 (by decide +kernel)) ?_
                                  refine Eq.trans (jr_s (pc2 := 33) (lv2 := [(0, .ref 117), (1, .int (-2147483637))]) (st2 := [.int 1, .int 0, .long 0, .long 2147483639]) jF_267_32 rfl rfl) ?_
                                  refine Eq.trans (jr_s (pc2 := 34) (lv2 := [(0, .ref 117), (1, .int (-2147483637))]) (st2 := [.int (-1), .long 0, .long 2147483639]) jF_267_33 rfl rfl) ?_
                                  refine Eq.trans (jr_s (pc2 := 35) (lv2 := [(0, .ref 117), (1, .int (-2147483637))]) (st2 := [.long (-1), .long 0, .long 2147483639]) jF_267_34 rfl rfl) ?_
                                  refine Eq.trans (jr_cS (as := [.long 2147483639, .long 0, .long (-1)]) (rest := []) (v := some (.int 0)) (hp2 := jh2) (fr2 := 498) (lo2 := 19954) jF_267_35 rfl (show j_cnd 499 19979 498 19954 6 _ _ = true from rfl) ?_) ?_
                                  · refine Eq.trans (jr_s (pc2 := 1) (lv2 := [(0, .long 2147483639), (2, .long 0), (4, .long (-1))]) (st2 := [.long 2147483639]) jF_232_0 rfl rfl) ?_
                                    refine Eq.trans (jr_s (pc2 := 2) (lv2 := [(0, .long 2147483639), (2, .long 0), (4, .long (-1))]) (st2 := [.long 0, .long 2147483639]) jF_232_1 rfl rfl) ?_
                                    refine Eq.trans (jr_s (pc2 := 3) (lv2 := [(0, .long 2147483639), (2, .long 0), (4, .long (-1))]) (st2 := [.int 1]) jF_232_2 rfl rfl) ?_
                                    refine Eq.trans (jr_if0 jF_232_3 (by decide +kernel)) ?_
                                    refine Eq.trans (jr_s (pc2 := 7) (lv2 := [(0, .long 2147483639), (2, .long 0), (4, .long (-1))]) (st2 := [.long 2147483639]) jF_232_6 rfl rfl) ?_
                                    refine Eq.trans (jr_s (pc2 := 9) (lv2 := [(0, .long 2147483639), (2, .long 0), (4, .long (-1))]) (st2 := [.long (-1), .long 2147483639]) jF_232_7 rfl rfl) ?_
                                    refine Eq.trans (jr_s (pc2 := 10) (lv2 := [(0, .long 2147483639), (2, .long 0), (4, .long (-1))]) (st2 := [.int 1]) jF_232_9 rfl rfl) ?_
                                    refine Eq.trans (jr_if1 jF_232_10 (by decide +kernel)) ?_
                                    refine Eq.trans (jr_s (pc2 := 18) (lv2 := [(0, .long 2147483639), (2, .long 0), (4, .long (-1))]) (st2 := [.int 0]) jF_232_17 rfl rfl) ?_
                                    exact jr_ri jF_232_18 rfl
                                  refine Eq.trans (jr_if1 jF_267_38 (by decide +kernel)) ?_
                                  refine Eq.trans (jr_s (pc2 := 56) (lv2 := [(0, .ref 117), (1, .int (-2147483637))]) (st2 := [.long 0]) jF_267_55 rfl rfl) ?_
                                  exact jr_rl jF_267_56
                                refine Eq.trans (jr_s (pc2 := 6) (lv2 := [(3, .long 0), (0, .ref 117), (1, .int (-2147483637)), (2, .int a2)]) (st2 := []) jF_266_5 rfl rfl) ?_
                                refine Eq.trans (jr_s (pc2 := 7) (lv2 := [(3, .long 0), (0, .ref 117), (1, .int (-2147483637)), (2, .int a2)]) (st2 := [.long 0]) jF_266_6 rfl rfl) ?_
                                refine Eq.trans (jr_s (pc2 := 8) (lv2 := [(3, .long 0), (0, .ref 117), (1, .int (-2147483637)), (2, .int a2)]) (st2 := [.long 0, .long 0]) jF_266_7 rfl rfl) ?_
                                refine Eq.trans (jr_s (pc2 := 9) (lv2 := [(3, .long 0), (0, .ref 117), (1, .int (-2147483637)), (2, .int a2)]) (st2 := [.int 0]) jF_266_8 rfl rfl) ?_
                                refine Eq.trans (jr_if1 jF_266_9 (by decide +kernel)) ?_
                                refine Eq.trans (jr_s (pc2 := 25) (lv2 := [(3, .long 0), (0, .ref 117), (1, .int (-2147483637)), (2, .int a2)]) (st2 := [.int (-1)]) jF_266_24 rfl rfl) ?_
                                exact jr_ri jF_266_25 rfl
                            · rcases j_ilt a1.toInt (-2147483635) with h_a1_2147483635m | h_a1_2147483635m
                              · obtain rfl : a1 = (-2147483636) := Int32.toInt_inj.mp (by rw [show ((-2147483636) : Int32).toInt = (-2147483636) from by decide]; omega)
                                refine ⟨60000, 60000, (-1), jh2, jh2, ?_, ?_, by decide +kernel⟩
                                · refine Eq.trans (jr_s (pc2 := 1) (lv2 := [(0, .ref 9), (1, .int (-2147483636)), (2, .int a2)]) (st2 := [.ref 9]) jF_92_0 rfl rfl) ?_
                                  refine Eq.trans (jr_gf (v := .ref 20) jF_92_1 (by decide +kernel)) ?_
                                  refine Eq.trans (jr_s (pc2 := 5) (lv2 := [(0, .ref 9), (1, .int (-2147483636)), (2, .int a2)]) (st2 := [.int (-2147483636), .ref 20]) jF_92_4 rfl rfl) ?_
                                  refine Eq.trans (jr_s (pc2 := 6) (lv2 := [(0, .ref 9), (1, .int (-2147483636)), (2, .int a2)]) (st2 := [.int a2, .int (-2147483636), .ref 20]) jF_92_5 rfl rfl) ?_
                                  refine Eq.trans (jr_cV (a := 20) (as := [.int (-2147483636), .int a2]) (rest := []) (v := some (.int (-1))) (hp2 := jh2) (fr2 := 499) (lo2 := 19978) jF_92_6 (by decide +kernel) rfl (show j_cnd 500 20000 499 19978 3 _ _ = true from rfl) ?_) ?_
                                  · refine Eq.trans (jr_s (pc2 := 1) (lv2 := [(0, .ref 20), (1, .int (-2147483636)), (2, .int a2)]) (st2 := [.int (-2147483636)]) jF_93_0 rfl rfl) ?_
                                    refine Eq.trans (jr_if1 jF_93_1 (by decide +kernel)) ?_
                                    refine Eq.trans (jr_s (pc2 := 33) (lv2 := [(0, .ref 20), (1, .int (-2147483636)), (2, .int a2)]) (st2 := [.int (-1)]) jF_93_32 rfl rfl) ?_
                                    exact jr_ri jF_93_33 rfl
                                  exact jr_ri jF_92_9 rfl
                                · refine Eq.trans (jr_s (pc2 := 1) (lv2 := [(0, .ref 117), (1, .int (-2147483636)), (2, .int a2)]) (st2 := [.ref 117]) jF_266_0 rfl rfl) ?_
                                  refine Eq.trans (jr_s (pc2 := 2) (lv2 := [(0, .ref 117), (1, .int (-2147483636)), (2, .int a2)]) (st2 := [.int (-2147483636), .ref 117]) jF_266_1 rfl rfl) ?_
                                  refine Eq.trans (jr_cV (a := 117) (as := [.int (-2147483636)]) (rest := []) (v := some (.long 0)) (hp2 := jh2) (fr2 := 499) (lo2 := 19979) jF_266_2 (by decide +kernel) rfl (show j_cnd 500 20000 499 19979 2 _ _ = true from rfl) ?_) ?_
                                  · refine Eq.trans (jr_s (pc2 := 1) (lv2 := [(0, .ref 117), (1, .int (-2147483636))]) (st2 := [.int (-2147483636)]) jF_267_0 rfl rfl) ?_
                                    refine Eq.trans (jr_s (pc2 := 2) (lv2 := [(0, .ref 117), (1, .int (-2147483636))]) (st2 := [.long (-2147483636)]) jF_267_1 rfl rfl) ?_
                                    refine Eq.trans (jr_s (pc2 := 3) (lv2 := [(0, .ref 117), (1, .int (-2147483636))]) (st2 := [.long 0, .long (-2147483636)]) jF_267_2 rfl rfl) ?_
                                    refine Eq.trans (jr_s (pc2 := 6) (lv2 := [(0, .ref 117), (1, .int (-2147483636))]) (st2 := [.long 17, .long 0, .long (-2147483636)]) jF_267_3 rfl rfl) ?_
                                    refine Eq.trans (jr_cS (as := [.long (-2147483636), .long 0, .long 17]) (rest := []) (v := some (.int 0)) (hp2 := jh2) (fr2 := 498) (lo2 := 19954) jF_267_6 rfl (show j_cnd 499 19979 498 19954 6 _ _ = true from rfl) ?_) ?_
                                    · refine Eq.trans (jr_s (pc2 := 1) (lv2 := [(0, .long (-2147483636)), (2, .long 0), (4, .long 17)]) (st2 := [.long (-2147483636)]) jF_232_0 rfl rfl) ?_
                                      refine Eq.trans (jr_s (pc2 := 2) (lv2 := [(0, .long (-2147483636)), (2, .long 0), (4, .long 17)]) (st2 := [.long 0, .long (-2147483636)]) jF_232_1 rfl rfl) ?_
                                      refine Eq.trans (jr_s (pc2 := 3) (lv2 := [(0, .long (-2147483636)), (2, .long 0), (4, .long 17)]) (st2 := [.int (-1)]) jF_232_2 rfl rfl) ?_
                                      refine Eq.trans (jr_if1 jF_232_3 (by decide +kernel)) ?_
                                      refine Eq.trans (jr_s (pc2 := 18) (lv2 := [(0, .long (-2147483636)), (2, .long 0), (4, .long 17)]) (st2 := [.int 0]) jF_232_17 rfl rfl) ?_
                                      exact jr_ri jF_232_18 rfl
                                    refine Eq.trans (jr_if1 jF_267_9 (by decide +kernel)) ?_
                                    refine Eq.trans (jr_s (pc2 := 23) (lv2 := [(0, .ref 117), (1, .int (-2147483636))]) (st2 := [.int (-2147483636)]) jF_267_22 rfl rfl) ?_
                                    refine Eq.trans (jr_s (pc2 := 25) (lv2 := [(0, .ref 117), (1, .int (-2147483636))]) (st2 := [.int 20, .int (-2147483636)]) jF_267_23 rfl rfl) ?_
                                    refine Eq.trans (jr_s (pc2 := 26) (lv2 := [(0, .ref 117), (1, .int (-2147483636))]) (st2 := [.int 2147483640]) jF_267_25 rfl rfl) ?_
                                    refine Eq.trans (jr_s (pc2 := 27) (lv2 := [(0, .ref 117), (1, .int (-2147483636))]) (st2 := [.long 2147483640]) jF_267_26 rfl rfl) ?_
                                    refine Eq.trans (jr_s (pc2 := 28) (lv2 := [(0, .ref 117), (1, .int (-2147483636))]) (st2 := [.long 0, .long 2147483640]) jF_267_27 rfl rfl) ?_
                                    refine Eq.trans (jr_s (pc2 := 29) (lv2 := [(0, .ref 117), (1, .int (-2147483636))]) (st2 := [.ref 117, .long 0, .long 2147483640]) jF_267_28 rfl rfl) ?_
                                    refine Eq.trans (jr_gf (v := .int 0) jF_267_29 (by decide +kernel)) ?_
                                    refine Eq.trans (jr_s (pc2 := 33) (lv2 := [(0, .ref 117), (1, .int (-2147483636))]) (st2 := [.int 1, .int 0, .long 0, .long 2147483640]) jF_267_32 rfl rfl) ?_
                                    refine Eq.trans (jr_s (pc2 := 34) (lv2 := [(0, .ref 117), (1, .int (-2147483636))]) (st2 := [.int (-1), .long 0, .long 2147483640]) jF_267_33 rfl rfl) ?_
                                    refine Eq.trans (jr_s (pc2 := 35) (lv2 := [(0, .ref 117), (1, .int (-2147483636))]) (st2 := [.long (-1), .long 0, .long 2147483640]) jF_267_34 rfl rfl) ?_
                                    refine Eq.trans (jr_cS (as := [.long 2147483640, .long 0, .long (-1)]) (rest := []) (v := some (.int 0)) (hp2 := jh2) (fr2 := 498) (lo2 := 19954) jF_267_35 rfl (show j_cnd 499 19979 498 19954 6 _ _ = true from rfl) ?_) ?_
                                    · refine Eq.trans (jr_s (pc2 := 1) (lv2 := [(0, .long 2147483640), (2, .long 0), (4, .long (-1))]) (st2 := [.long 2147483640]) jF_232_0 rfl rfl) ?_
                                      refine Eq.trans (jr_s (pc2 := 2) (lv2 := [(0, .long 2147483640), (2, .long 0), (4, .long (-1))]) (st2 := [.long 0, .long 2147483640]) jF_232_1 rfl rfl) ?_
                                      refine Eq.trans (jr_s (pc2 := 3) (lv2 := [(0, .long 2147483640), (2, .long 0), (4, .long (-1))]) (st2 := [.int 1]) jF_232_2 rfl rfl) ?_
                                      refine Eq.trans (jr_if0 jF_232_3 (by decide +kernel)) ?_
                                      refine Eq.trans (jr_s (pc2 := 7) (lv2 := [(0, .long 2147483640), (2, .long 0), (4, .long (-1))]) (st2 := [.long 2147483640]) jF_232_6 rfl rfl) ?_
                                      refine Eq.trans (jr_s (pc2 := 9) (lv2 := [(0, .long 2147483640), (2, .long 0), (4, .long (-1))]) (st2 := [.long (-1), .long 2147483640]) jF_232_7 rfl rfl) ?_
                                      refine Eq.trans (jr_s (pc2 := 10) (lv2 := [(0, .long 2147483640), (2, .long 0), (4, .long (-1))]) (st2 := [.int 1]) jF_232_9 rfl rfl) ?_
                                      refine Eq.trans (jr_if1 jF_232_10 (by decide +kernel)) ?_
                                      refine Eq.trans (jr_s (pc2 := 18) (lv2 := [(0, .long 2147483640), (2, .long 0), (4, .long (-1))]) (st2 := [.int 0]) jF_232_17 rfl rfl) ?_
                                      exact jr_ri jF_232_18 rfl
                                    refine Eq.trans (jr_if1 jF_267_38 (by decide +kernel)) ?_
                                    refine Eq.trans (jr_s (pc2 := 56) (lv2 := [(0, .ref 117), (1, .int (-2147483636))]) (st2 := [.long 0]) jF_267_55 rfl rfl) ?_
                                    exact jr_rl jF_267_56
                                  refine Eq.trans (jr_s (pc2 := 6) (lv2 := [(3, .long 0), (0, .ref 117), (1, .int (-2147483636)), (2, .int a2)]) (st2 := []) jF_266_5 rfl rfl) ?_
                                  refine Eq.trans (jr_s (pc2 := 7) (lv2 := [(3, .long 0), (0, .ref 117), (1, .int (-2147483636)), (2, .int a2)]) (st2 := [.long 0]) jF_266_6 rfl rfl) ?_
                                  refine Eq.trans (jr_s (pc2 := 8) (lv2 := [(3, .long 0), (0, .ref 117), (1, .int (-2147483636)), (2, .int a2)]) (st2 := [.long 0, .long 0]) jF_266_7 rfl rfl) ?_
                                  refine Eq.trans (jr_s (pc2 := 9) (lv2 := [(3, .long 0), (0, .ref 117), (1, .int (-2147483636)), (2, .int a2)]) (st2 := [.int 0]) jF_266_8 rfl rfl) ?_
                                  refine Eq.trans (jr_if1 jF_266_9 (by decide +kernel)) ?_
                                  refine Eq.trans (jr_s (pc2 := 25) (lv2 := [(3, .long 0), (0, .ref 117), (1, .int (-2147483636)), (2, .int a2)]) (st2 := [.int (-1)]) jF_266_24 rfl rfl) ?_
                                  exact jr_ri jF_266_25 rfl
                              · rcases j_ilt a1.toInt (-2147483634) with h_a1_2147483634m | h_a1_2147483634m
                                · obtain rfl : a1 = (-2147483635) := Int32.toInt_inj.mp (by rw [show ((-2147483635) : Int32).toInt = (-2147483635) from by decide]; omega)
                                  refine ⟨60000, 60000, (-1), jh2, jh2, ?_, ?_, by decide +kernel⟩
                                  · refine Eq.trans (jr_s (pc2 := 1) (lv2 := [(0, .ref 9), (1, .int (-2147483635)), (2, .int a2)]) (st2 := [.ref 9]) jF_92_0 rfl rfl) ?_
                                    refine Eq.trans (jr_gf (v := .ref 20) jF_92_1 (by decide +kernel)) ?_
                                    refine Eq.trans (jr_s (pc2 := 5) (lv2 := [(0, .ref 9), (1, .int (-2147483635)), (2, .int a2)]) (st2 := [.int (-2147483635), .ref 20]) jF_92_4 rfl rfl) ?_
                                    refine Eq.trans (jr_s (pc2 := 6) (lv2 := [(0, .ref 9), (1, .int (-2147483635)), (2, .int a2)]) (st2 := [.int a2, .int (-2147483635), .ref 20]) jF_92_5 rfl rfl) ?_
                                    refine Eq.trans (jr_cV (a := 20) (as := [.int (-2147483635), .int a2]) (rest := []) (v := some (.int (-1))) (hp2 := jh2) (fr2 := 499) (lo2 := 19978) jF_92_6 (by decide +kernel) rfl (show j_cnd 500 20000 499 19978 3 _ _ = true from rfl) ?_) ?_
                                    · refine Eq.trans (jr_s (pc2 := 1) (lv2 := [(0, .ref 20), (1, .int (-2147483635)), (2, .int a2)]) (st2 := [.int (-2147483635)]) jF_93_0 rfl rfl) ?_
                                      refine Eq.trans (jr_if1 jF_93_1 (by decide +kernel)) ?_
                                      refine Eq.trans (jr_s (pc2 := 33) (lv2 := [(0, .ref 20), (1, .int (-2147483635)), (2, .int a2)]) (st2 := [.int (-1)]) jF_93_32 rfl rfl) ?_
                                      exact jr_ri jF_93_33 rfl
                                    exact jr_ri jF_92_9 rfl
                                  · refine Eq.trans (jr_s (pc2 := 1) (lv2 := [(0, .ref 117), (1, .int (-2147483635)), (2, .int a2)]) (st2 := [.ref 117]) jF_266_0 rfl rfl) ?_
                                    refine Eq.trans (jr_s (pc2 := 2) (lv2 := [(0, .ref 117), (1, .int (-2147483635)), (2, .int a2)]) (st2 := [.int (-2147483635), .ref 117]) jF_266_1 rfl rfl) ?_
                                    refine Eq.trans (jr_cV (a := 117) (as := [.int (-2147483635)]) (rest := []) (v := some (.long 0)) (hp2 := jh2) (fr2 := 499) (lo2 := 19979) jF_266_2 (by decide +kernel) rfl (show j_cnd 500 20000 499 19979 2 _ _ = true from rfl) ?_) ?_
                                    · refine Eq.trans (jr_s (pc2 := 1) (lv2 := [(0, .ref 117), (1, .int (-2147483635))]) (st2 := [.int (-2147483635)]) jF_267_0 rfl rfl) ?_
                                      refine Eq.trans (jr_s (pc2 := 2) (lv2 := [(0, .ref 117), (1, .int (-2147483635))]) (st2 := [.long (-2147483635)]) jF_267_1 rfl rfl) ?_
                                      refine Eq.trans (jr_s (pc2 := 3) (lv2 := [(0, .ref 117), (1, .int (-2147483635))]) (st2 := [.long 0, .long (-2147483635)]) jF_267_2 rfl rfl) ?_
                                      refine Eq.trans (jr_s (pc2 := 6) (lv2 := [(0, .ref 117), (1, .int (-2147483635))]) (st2 := [.long 17, .long 0, .long (-2147483635)]) jF_267_3 rfl rfl) ?_
                                      refine Eq.trans (jr_cS (as := [.long (-2147483635), .long 0, .long 17]) (rest := []) (v := some (.int 0)) (hp2 := jh2) (fr2 := 498) (lo2 := 19954) jF_267_6 rfl (show j_cnd 499 19979 498 19954 6 _ _ = true from rfl) ?_) ?_
                                      · refine Eq.trans (jr_s (pc2 := 1) (lv2 := [(0, .long (-2147483635)), (2, .long 0), (4, .long 17)]) (st2 := [.long (-2147483635)]) jF_232_0 rfl rfl) ?_
                                        refine Eq.trans (jr_s (pc2 := 2) (lv2 := [(0, .long (-2147483635)), (2, .long 0), (4, .long 17)]) (st2 := [.long 0, .long (-2147483635)]) jF_232_1 rfl rfl) ?_
                                        refine Eq.trans (jr_s (pc2 := 3) (lv2 := [(0, .long (-2147483635)), (2, .long 0), (4, .long 17)]) (st2 := [.int (-1)]) jF_232_2 rfl rfl) ?_
                                        refine Eq.trans (jr_if1 jF_232_3 (by decide +kernel)) ?_
                                        refine Eq.trans (jr_s (pc2 := 18) (lv2 := [(0, .long (-2147483635)), (2, .long 0), (4, .long 17)]) (st2 := [.int 0]) jF_232_17 rfl rfl) ?_
                                        exact jr_ri jF_232_18 rfl
                                      refine Eq.trans (jr_if1 jF_267_9 (by decide +kernel)) ?_
                                      refine Eq.trans (jr_s (pc2 := 23) (lv2 := [(0, .ref 117), (1, .int (-2147483635))]) (st2 := [.int (-2147483635)]) jF_267_22 rfl rfl) ?_
                                      refine Eq.trans (jr_s (pc2 := 25) (lv2 := [(0, .ref 117), (1, .int (-2147483635))]) (st2 := [.int 20, .int (-2147483635)]) jF_267_23 rfl rfl) ?_
                                      refine Eq.trans (jr_s (pc2 := 26) (lv2 := [(0, .ref 117), (1, .int (-2147483635))]) (st2 := [.int 2147483641]) jF_267_25 rfl rfl) ?_
                                      refine Eq.trans (jr_s (pc2 := 27) (lv2 := [(0, .ref 117), (1, .int (-2147483635))]) (st2 := [.long 2147483641]) jF_267_26 rfl rfl) ?_
                                      refine Eq.trans (jr_s (pc2 := 28) (lv2 := [(0, .ref 117), (1, .int (-2147483635))]) (st2 := [.long 0, .long 2147483641]) jF_267_27 rfl rfl) ?_
                                      refine Eq.trans (jr_s (pc2 := 29) (lv2 := [(0, .ref 117), (1, .int (-2147483635))]) (st2 := [.ref 117, .long 0, .long 2147483641]) jF_267_28 rfl rfl) ?_
                                      refine Eq.trans (jr_gf (v := .int 0) jF_267_29 (by decide +kernel)) ?_
                                      refine Eq.trans (jr_s (pc2 := 33) (lv2 := [(0, .ref 117), (1, .int (-2147483635))]) (st2 := [.int 1, .int 0, .long 0, .long 2147483641]) jF_267_32 rfl rfl) ?_
                                      refine Eq.trans (jr_s (pc2 := 34) (lv2 := [(0, .ref 117), (1, .int (-2147483635))]) (st2 := [.int (-1), .long 0, .long 2147483641]) jF_267_33 rfl rfl) ?_
                                      refine Eq.trans (jr_s (pc2 := 35) (lv2 := [(0, .ref 117), (1, .int (-2147483635))]) (st2 := [.long (-1), .long 0, .long 2147483641]) jF_267_34 rfl rfl) ?_
                                      refine Eq.trans (jr_cS (as := [.long 2147483641, .long 0, .long (-1)]) (rest := []) (v := some (.int 0)) (hp2 := jh2) (fr2 := 498) (lo2 := 19954) jF_267_35 rfl (show j_cnd 499 19979 498 19954 6 _ _ = true from rfl) ?_) ?_
                                      · refine Eq.trans (jr_s (pc2 := 1) (lv2 := [(0, .long 2147483641), (2, .long 0), (4, .long (-1))]) (st2 := [.long 2147483641]) jF_232_0 rfl rfl) ?_
                                        refine Eq.trans (jr_s (pc2 := 2) (lv2 := [(0, .long 2147483641), (2, .long 0), (4, .long (-1))]) (st2 := [.long 0, .long 2147483641]) jF_232_1 rfl rfl) ?_
                                        refine Eq.trans (jr_s (pc2 := 3) (lv2 := [(0, .long 2147483641), (2, .long 0), (4, .long (-1))]) (st2 := [.int 1]) jF_232_2 rfl rfl) ?_
                                        refine Eq.trans (jr_if0 jF_232_3 (by decide +kernel)) ?_
                                        refine Eq.trans (jr_s (pc2 := 7) (lv2 := [(0, .long 2147483641), (2, .long 0), (4, .long (-1))]) (st2 := [.long 2147483641]) jF_232_6 rfl rfl) ?_
                                        refine Eq.trans (jr_s (pc2 := 9) (lv2 := [(0, .long 2147483641), (2, .long 0), (4, .long (-1))]) (st2 := [.long (-1), .long 2147483641]) jF_232_7 rfl rfl) ?_
                                        refine Eq.trans (jr_s (pc2 := 10) (lv2 := [(0, .long 2147483641), (2, .long 0), (4, .long (-1))]) (st2 := [.int 1]) jF_232_9 rfl rfl) ?_
                                        refine Eq.trans (jr_if1 jF_232_10 (by decide +kernel)) ?_
                                        refine Eq.trans (jr_s (pc2 := 18) (lv2 := [(0, .long 2147483641), (2, .long 0), (4, .long (-1))]) (st2 := [.int 0]) jF_232_17 rfl rfl) ?_
                                        exact jr_ri jF_232_18 rfl
                                      refine Eq.trans (jr_if1 jF_267_38 (by decide +kernel)) ?_
                                      refine Eq.trans (jr_s (pc2 := 56) (lv2 := [(0, .ref 117), (1, .int (-2147483635))]) (st2 := [.long 0]) jF_267_55 rfl rfl) ?_
                                      exact jr_rl jF_267_56
                                    refine Eq.trans (jr_s (pc2 := 6) (lv2 := [(3, .long 0), (0, .ref 117), (1, .int (-2147483635)), (2, .int a2)]) (st2 := []) jF_266_5 rfl rfl) ?_
                                    refine Eq.trans (jr_s (pc2 := 7) (lv2 := [(3, .long 0), (0, .ref 117), (1, .int (-2147483635)), (2, .int a2)]) (st2 := [.long 0]) jF_266_6 rfl rfl) ?_
                                    refine Eq.trans (jr_s (pc2 := 8) (lv2 := [(3, .long 0), (0, .ref 117), (1, .int (-2147483635)), (2, .int a2)]) (st2 := [.long 0, .long 0]) jF_266_7 rfl rfl) ?_
                                    refine Eq.trans (jr_s (pc2 := 9) (lv2 := [(3, .long 0), (0, .ref 117), (1, .int (-2147483635)), (2, .int a2)]) (st2 := [.int 0]) jF_266_8 rfl rfl) ?_
                                    refine Eq.trans (jr_if1 jF_266_9 (by decide +kernel)) ?_
                                    refine Eq.trans (jr_s (pc2 := 25) (lv2 := [(3, .long 0), (0, .ref 117), (1, .int (-2147483635)), (2, .int a2)]) (st2 := [.int (-1)]) jF_266_24 rfl rfl) ?_
                                    exact jr_ri jF_266_25 rfl
                                · rcases j_ilt a1.toInt (-2147483633) with h_a1_2147483633m | h_a1_2147483633m
                                  · obtain rfl : a1 = (-2147483634) := Int32.toInt_inj.mp (by rw [show ((-2147483634) : Int32).toInt = (-2147483634) from by decide]; omega)
                                    refine ⟨60000, 60000, (-1), jh2, jh2, ?_, ?_, by decide +kernel⟩
                                    · refine Eq.trans (jr_s (pc2 := 1) (lv2 := [(0, .ref 9), (1, .int (-2147483634)), (2, .int a2)]) (st2 := [.ref 9]) jF_92_0 rfl rfl) ?_
                                      refine Eq.trans (jr_gf (v := .ref 20) jF_92_1 (by decide +kernel)) ?_
                                      refine Eq.trans (jr_s (pc2 := 5) (lv2 := [(0, .ref 9), (1, .int (-2147483634)), (2, .int a2)]) (st2 := [.int (-2147483634), .ref 20]) jF_92_4 rfl rfl) ?_
                                      refine Eq.trans (jr_s (pc2 := 6) (lv2 := [(0, .ref 9), (1, .int (-2147483634)), (2, .int a2)]) (st2 := [.int a2, .int (-2147483634), .ref 20]) jF_92_5 rfl rfl) ?_
                                      refine Eq.trans (jr_cV (a := 20) (as := [.int (-2147483634), .int a2]) (rest := []) (v := some (.int (-1))) (hp2 := jh2) (fr2 := 499) (lo2 := 19978) jF_92_6 (by decide +kernel) rfl (show j_cnd 500 20000 499 19978 3 _ _ = true from rfl) ?_) ?_
                                      · refine Eq.trans (jr_s (pc2 := 1) (lv2 := [(0, .ref 20), (1, .int (-2147483634)), (2, .int a2)]) (st2 := [.int (-2147483634)]) jF_93_0 rfl rfl) ?_
                                        refine Eq.trans (jr_if1 jF_93_1 (by decide +kernel)) ?_
                                        refine Eq.trans (jr_s (pc2 := 33) (lv2 := [(0, .ref 20), (1, .int (-2147483634)), (2, .int a2)]) (st2 := [.int (-1)]) jF_93_32 rfl rfl) ?_
                                        exact jr_ri jF_93_33 rfl
                                      exact jr_ri jF_92_9 rfl
                                    · refine Eq.trans (jr_s (pc2 := 1) (lv2 := [(0, .ref 117), (1, .int (-2147483634)), (2, .int a2)]) (st2 := [.ref 117]) jF_266_0 rfl rfl) ?_
                                      refine Eq.trans (jr_s (pc2 := 2) (lv2 := [(0, .ref 117), (1, .int (-2147483634)), (2, .int a2)]) (st2 := [.int (-2147483634), .ref 117]) jF_266_1 rfl rfl) ?_
                                      refine Eq.trans (jr_cV (a := 117) (as := [.int (-2147483634)]) (rest := []) (v := some (.long 0)) (hp2 := jh2) (fr2 := 499) (lo2 := 19979) jF_266_2 (by decide +kernel) rfl (show j_cnd 500 20000 499 19979 2 _ _ = true from rfl) ?_) ?_
                                      · refine Eq.trans (jr_s (pc2 := 1) (lv2 := [(0, .ref 117), (1, .int (-2147483634))]) (st2 := [.int (-2147483634)]) jF_267_0 rfl rfl) ?_
                                        refine Eq.trans (jr_s (pc2 := 2) (lv2 := [(0, .ref 117), (1, .int (-2147483634))]) (st2 := [.long (-2147483634)]) jF_267_1 rfl rfl) ?_
                                        refine Eq.trans (jr_s (pc2 := 3) (lv2 := [(0, .ref 117), (1, .int (-2147483634))]) (st2 := [.long 0, .long (-2147483634)]) jF_267_2 rfl rfl) ?_
                                        refine Eq.trans (jr_s (pc2 := 6) (lv2 := [(0, .ref 117), (1, .int (-2147483634))]) (st2 := [.long 17, .long 0, .long (-2147483634)]) jF_267_3 rfl rfl) ?_
                                        refine Eq.trans (jr_cS (as := [.long (-2147483634), .long 0, .long 17]) (rest := []) (v := some (.int 0)) (hp2 := jh2) (fr2 := 498) (lo2 := 19954) jF_267_6 rfl (show j_cnd 499 19979 498 19954 6 _ _ = true from rfl) ?_) ?_
                                        · refine Eq.trans (jr_s (pc2 := 1) (lv2 := [(0, .long (-2147483634)), (2, .long 0), (4, .long 17)]) (st2 := [.long (-2147483634)]) jF_232_0 rfl rfl) ?_
                                          refine Eq.trans (jr_s (pc2 := 2) (lv2 := [(0, .long (-2147483634)), (2, .long 0), (4, .long 17)]) (st2 := [.long 0, .long (-2147483634)]) jF_232_1 rfl rfl) ?_
                                          refine Eq.trans (jr_s (pc2 := 3) (lv2 := [(0, .long (-2147483634)), (2, .long 0), (4, .long 17)]) (st2 := [.int (-1)]) jF_232_2 rfl rfl) ?_
                                          refine Eq.trans (jr_if1 jF_232_3 (by decide +kernel)) ?_
                                          refine Eq.trans (jr_s (pc2 := 18) (lv2 := [(0, .long (-2147483634)), (2, .long 0), (4, .long 17)]) (st2 := [.int 0]) jF_232_17 rfl rfl) ?_
                                          exact jr_ri jF_232_18 rfl
                                        refine Eq.trans (jr_if1 jF_267_9 (by decide +kernel)) ?_
                                        refine Eq.trans (jr_s (pc2 := 23) (lv2 := [(0, .ref 117), (1, .int (-2147483634))]) (st2 := [.int (-2147483634)]) jF_267_22 rfl rfl) ?_
                                        refine Eq.trans (jr_s (pc2 := 25) (lv2 := [(0, .ref 117), (1, .int (-2147483634))]) (st2 := [.int 20, .int (-2147483634)]) jF_267_23 rfl rfl) ?_
                                        refine Eq.trans (jr_s (pc2 := 26) (lv2 := [(0, .ref 117), (1, .int (-2147483634))]) (st2 := [.int 2147483642]) jF_267_25 rfl rfl) ?_
                                        refine Eq.trans (jr_s (pc2 := 27) (lv2 := [(0, .ref 117), (1, .int (-2147483634))]) (st2 := [.long 2147483642]) jF_267_26 rfl rfl) ?_
                                        refine Eq.trans (jr_s (pc2 := 28) (lv2 := [(0, .ref 117), (1, .int (-2147483634))]) (st2 := [.long 0, .long 2147483642]) jF_267_27 rfl rfl) ?_
                                        refine Eq.trans (jr_s (pc2 := 29) (lv2 := [(0, .ref 117), (1, .int (-2147483634))]) (st2 := [.ref 117, .long 0, .long 2147483642]) jF_267_28 rfl rfl) ?_
                                        refine Eq.trans (jr_gf (v := .int 0) jF_267_29 (by decide +kernel)) ?_
                                        refine Eq.trans (jr_s (pc2 := 33) (lv2 := [(0, .ref 117), (1, .int (-2147483634))]) (st2 := [.int 1, .int 0, .long 0, .long 2147483642]) jF_267_32 rfl rfl) ?_
                                        refine Eq.trans (jr_s (pc2 := 34) (lv2 := [(0, .ref 117), (1, .int (-2147483634))]) (st2 := [.int (-1), .long 0, .long 2147483642]) jF_267_33 rfl rfl) ?_
                                        refine Eq.trans (jr_s (pc2 := 35) (lv2 := [(0, .ref 117), (1, .int (-2147483634))]) (st2 := [.long (-1), .long 0, .long 2147483642]) jF_267_34 rfl rfl) ?_
                                        refine Eq.trans (jr_cS (as := [.long 2147483642, .long 0, .long (-1)]) (rest := []) (v := some (.int 0)) (hp2 := jh2) (fr2 := 498) (lo2 := 19954) jF_267_35 rfl (show j_cnd 499 19979 498 19954 6 _ _ = true from rfl) ?_) ?_
                                        · refine Eq.trans (jr_s (pc2 := 1) (lv2 := [(0, .long 2147483642), (2, .long 0), (4, .long (-1))]) (st2 := [.long 2147483642]) jF_232_0 rfl rfl) ?_
                                          refine Eq.trans (jr_s (pc2 := 2) (lv2 := [(0, .long 2147483642), (2, .long 0), (4, .long (-1))]) (st2 := [.long 0, .long 2147483642]) jF_232_1 rfl rfl) ?_
                                          refine Eq.trans (jr_s (pc2 := 3) (lv2 := [(0, .long 2147483642), (2, .long 0), (4, .long (-1))]) (st2 := [.int 1]) jF_232_2 rfl rfl) ?_
                                          refine Eq.trans (jr_if0 jF_232_3 (by decide +kernel)) ?_
                                          refine Eq.trans (jr_s (pc2 := 7) (lv2 := [(0, .long 2147483642), (2, .long 0), (4, .long (-1))]) (st2 := [.long 2147483642]) jF_232_6 rfl rfl) ?_
                                          refine Eq.trans (jr_s (pc2 := 9) (lv2 := [(0, .long 2147483642), (2, .long 0), (4, .long (-1))]) (st2 := [.long (-1), .long 2147483642]) jF_232_7 rfl rfl) ?_
                                          refine Eq.trans (jr_s (pc2 := 10) (lv2 := [(0, .long 2147483642), (2, .long 0), (4, .long (-1))]) (st2 := [.int 1]) jF_232_9 rfl rfl) ?_
                                          refine Eq.trans (jr_if1 jF_232_10 (by decide +kernel)) ?_
                                          refine Eq.trans (jr_s (pc2 := 18) (lv2 := [(0, .long 2147483642), (2, .long 0), (4, .long (-1))]) (st2 := [.int 0]) jF_232_17 rfl rfl) ?_
                                          exact jr_ri jF_232_18 rfl
                                        refine Eq.trans (jr_if1 jF_267_38 (by decide +kernel)) ?_
                                        refine Eq.trans (jr_s (pc2 := 56) (lv2 := [(0, .ref 117), (1, .int (-2147483634))]) (st2 := [.long 0]) jF_267_55 rfl rfl) ?_
                                        exact jr_rl jF_267_56
                                      refine Eq.trans (jr_s (pc2 := 6) (lv2 := [(3, .long 0), (0, .ref 117), (1, .int (-2147483634)), (2, .int a2)]) (st2 := []) jF_266_5 rfl rfl) ?_
                                      refine Eq.trans (jr_s (pc2 := 7) (lv2 := [(3, .long 0), (0, .ref 117), (1, .int (-2147483634)), (2, .int a2)]) (st2 := [.long 0]) jF_266_6 rfl rfl) ?_
                                      refine Eq.trans (jr_s (pc2 := 8) (lv2 := [(3, .long 0), (0, .ref 117), (1, .int (-2147483634)), (2, .int a2)]) (st2 := [.long 0, .long 0]) jF_266_7 rfl rfl) ?_
                                      refine Eq.trans (jr_s (pc2 := 9) (lv2 := [(3, .long 0), (0, .ref 117), (1, .int (-2147483634)), (2, .int a2)]) (st2 := [.int 0]) jF_266_8 rfl rfl) ?_
                                      refine Eq.trans (jr_if1 jF_266_9 (by decide +kernel)) ?_
                                      refine Eq.trans (jr_s (pc2 := 25) (lv2 := [(3, .long 0), (0, .ref 117), (1, .int (-2147483634)), (2, .int a2)]) (st2 := [.int (-1)]) jF_266_24 rfl rfl) ?_
                                      exact jr_ri jF_266_25 rfl
                                  · rcases j_ilt a1.toInt (-2147483632) with h_a1_2147483632m | h_a1_2147483632m
                                    · obtain rfl : a1 = (-2147483633) := Int32.toInt_inj.mp (by rw [show ((-2147483633) : Int32).toInt = (-2147483633) from by decide]; omega)
                                      refine ⟨60000, 60000, (-1), jh2, jh2, ?_, ?_, by decide +kernel⟩
                                      · refine Eq.trans (jr_s (pc2 := 1) (lv2 := [(0, .ref 9), (1, .int (-2147483633)), (2, .int a2)]) (st2 := [.ref 9]) jF_92_0 rfl rfl) ?_
                                        refine Eq.trans (jr_gf (v := .ref 20) jF_92_1 (by decide +kernel)) ?_
                                        refine Eq.trans (jr_s (pc2 := 5) (lv2 := [(0, .ref 9), (1, .int (-2147483633)), (2, .int a2)]) (st2 := [.int (-2147483633), .ref 20]) jF_92_4 rfl rfl) ?_
                                        refine Eq.trans (jr_s (pc2 := 6) (lv2 := [(0, .ref 9), (1, .int (-2147483633)), (2, .int a2)]) (st2 := [.int a2, .int (-2147483633), .ref 20]) jF_92_5 rfl rfl) ?_
                                        refine Eq.trans (jr_cV (a := 20) (as := [.int (-2147483633), .int a2]) (rest := []) (v := some (.int (-1))) (hp2 := jh2) (fr2 := 499) (lo2 := 19978) jF_92_6 (by decide +kernel) rfl (show j_cnd 500 20000 499 19978 3 _ _ = true from rfl) ?_) ?_
                                        · refine Eq.trans (jr_s (pc2 := 1) (lv2 := [(0, .ref 20), (1, .int (-2147483633)), (2, .int a2)]) (st2 := [.int (-2147483633)]) jF_93_0 rfl rfl) ?_
                                          refine Eq.trans (jr_if1 jF_93_1 (by decide +kernel)) ?_
                                          refine Eq.trans (jr_s (pc2 := 33) (lv2 := [(0, .ref 20), (1, .int (-2147483633)), (2, .int a2)]) (st2 := [.int (-1)]) jF_93_32 rfl rfl) ?_
                                          exact jr_ri jF_93_33 rfl
                                        exact jr_ri jF_92_9 rfl
                                      · refine Eq.trans (jr_s (pc2 := 1) (lv2 := [(0, .ref 117), (1, .int (-2147483633)), (2, .int a2)]) (st2 := [.ref 117]) jF_266_0 rfl rfl) ?_
                                        refine Eq.trans (jr_s (pc2 := 2) (lv2 := [(0, .ref 117), (1, .int (-2147483633)), (2, .int a2)]) (st2 := [.int (-2147483633), .ref 117]) jF_266_1 rfl rfl) ?_
                                        refine Eq.trans (jr_cV (a := 117) (as := [.int (-2147483633)]) (rest := []) (v := some (.long 0)) (hp2 := jh2) (fr2 := 499) (lo2 := 19979) jF_266_2 (by decide +kernel) rfl (show j_cnd 500 20000 499 19979 2 _ _ = true from rfl) ?_) ?_
                                        · refine Eq.trans (jr_s (pc2 := 1) (lv2 := [(0, .ref 117), (1, .int (-2147483633))]) (st2 := [.int (-2147483633)]) jF_267_0 rfl rfl) ?_
                                          refine Eq.trans (jr_s (pc2 := 2) (lv2 := [(0, .ref 117), (1, .int (-2147483633))]) (st2 := [.long (-2147483633)]) jF_267_1 rfl rfl) ?_
                                          refine Eq.trans (jr_s (pc2 := 3) (lv2 := [(0, .ref 117), (1, .int (-2147483633))]) (st2 := [.long 0, .long (-2147483633)]) jF_267_2 rfl rfl) ?_
                                          refine Eq.trans (jr_s (pc2 := 6) (lv2 := [(0, .ref 117), (1, .int (-2147483633))]) (st2 := [.long 17, .long 0, .long (-2147483633)]) jF_267_3 rfl rfl) ?_
                                          refine Eq.trans (jr_cS (as := [.long (-2147483633), .long 0, .long 17]) (rest := []) (v := some (.int 0)) (hp2 := jh2) (fr2 := 498) (lo2 := 19954) jF_267_6 rfl (show j_cnd 499 19979 498 19954 6 _ _ = true from rfl) ?_) ?_
                                          · refine Eq.trans (jr_s (pc2 := 1) (lv2 := [(0, .long (-2147483633)), (2, .long 0), (4, .long 17)]) (st2 := [.long (-2147483633)]) jF_232_0 rfl rfl) ?_
                                            refine Eq.trans (jr_s (pc2 := 2) (lv2 := [(0, .long (-2147483633)), (2, .long 0), (4, .long 17)]) (st2 := [.long 0, .long (-2147483633)]) jF_232_1 rfl rfl) ?_
                                            refine Eq.trans (jr_s (pc2 := 3) (lv2 := [(0, .long (-2147483633)), (2, .long 0), (4, .long 17)]) (st2 := [.int (-1)]) jF_232_2 rfl rfl) ?_
                                            refine Eq.trans (jr_if1 jF_232_3 (by decide +kernel)) ?_
                                            refine Eq.trans (jr_s (pc2 := 18) (lv2 := [(0, .long (-2147483633)), (2, .long 0), (4, .long 17)]) (st2 := [.int 0]) jF_232_17 rfl rfl) ?_
                                            exact jr_ri jF_232_18 rfl
                                          refine Eq.trans (jr_if1 jF_267_9 (by decide +kernel)) ?_
                                          refine Eq.trans (jr_s (pc2 := 23) (lv2 := [(0, .ref 117), (1, .int (-2147483633))]) (st2 := [.int (-2147483633)]) jF_267_22 rfl rfl) ?_
                                          refine Eq.trans (jr_s (pc2 := 25) (lv2 := [(0, .ref 117), (1, .int (-2147483633))]) (st2 := [.int 20, .int (-2147483633)]) jF_267_23 rfl rfl) ?_
                                          refine Eq.trans (jr_s (pc2 := 26) (lv2 := [(0, .ref 117), (1, .int (-2147483633))]) (st2 := [.int 2147483643]) jF_267_25 rfl rfl) ?_
                                          refine Eq.trans (jr_s (pc2 := 27) (lv2 := [(0, .ref 117), (1, .int (-2147483633))]) (st2 := [.long 2147483643]) jF_267_26 rfl rfl) ?_
                                          refine Eq.trans (jr_s (pc2 := 28) (lv2 := [(0, .ref 117), (1, .int (-2147483633))]) (st2 := [.long 0, .long 2147483643]) jF_267_27 rfl rfl) ?_
                                          refine Eq.trans (jr_s (pc2 := 29) (lv2 := [(0, .ref 117), (1, .int (-2147483633))]) (st2 := [.ref 117, .long 0, .long 2147483643]) jF_267_28 rfl rfl) ?_
                                          refine Eq.trans (jr_gf (v := .int 0) jF_267_29 (by decide +kernel)) ?_
                                          refine Eq.trans (jr_s (pc2 := 33) (lv2 := [(0, .ref 117), (1, .int (-2147483633))]) (st2 := [.int 1, .int 0, .long 0, .long 2147483643]) jF_267_32 rfl rfl) ?_
                                          refine Eq.trans (jr_s (pc2 := 34) (lv2 := [(0, .ref 117), (1, .int (-2147483633))]) (st2 := [.int (-1), .long 0, .long 2147483643]) jF_267_33 rfl rfl) ?_
                                          refine Eq.trans (jr_s (pc2 := 35) (lv2 := [(0, .ref 117), (1, .int (-2147483633))]) (st2 := [.long (-1), .long 0, .long 2147483643]) jF_267_34 rfl rfl) ?_
                                          refine Eq.trans (jr_cS (as := [.long 2147483643, .long 0, .long (-1)]) (rest := []) (v := some (.int 0)) (hp2 := jh2) (fr2 := 498) (lo2 := 19954) jF_267_35 rfl (show j_cnd 499 19979 498 19954 6 _ _ = true from rfl) ?_) ?_
                                          · refine Eq.trans (jr_s (pc2 := 1) (lv2 := [(0, .long 2147483643), (2, .long 0), (4, .long (-1))]) (st2 := [.long 2147483643]) jF_232_0 rfl rfl) ?_
                                            refine Eq.trans (jr_s (pc2 := 2) (lv2 := [(0, .long 2147483643), (2, .long 0), (4, .long (-1))]) (st2 := [.long 0, .long 2147483643]) jF_232_1 rfl rfl) ?_
                                            refine Eq.trans (jr_s (pc2 := 3) (lv2 := [(0, .long 2147483643), (2, .long 0), (4, .long (-1))]) (st2 := [.int 1]) jF_232_2 rfl rfl) ?_
                                            refine Eq.trans (jr_if0 jF_232_3 (by decide +kernel)) ?_
                                            refine Eq.trans (jr_s (pc2 := 7) (lv2 := [(0, .long 2147483643), (2, .long 0), (4, .long (-1))]) (st2 := [.long 2147483643]) jF_232_6 rfl rfl) ?_
                                            refine Eq.trans (jr_s (pc2 := 9) (lv2 := [(0, .long 2147483643), (2, .long 0), (4, .long (-1))]) (st2 := [.long (-1), .long 2147483643]) jF_232_7 rfl rfl) ?_
                                            refine Eq.trans (jr_s (pc2 := 10) (lv2 := [(0, .long 2147483643), (2, .long 0), (4, .long (-1))]) (st2 := [.int 1]) jF_232_9 rfl rfl) ?_
                                            refine Eq.trans (jr_if1 jF_232_10 (by decide +kernel)) ?_
                                            refine Eq.trans (jr_s (pc2 := 18) (lv2 := [(0, .long 2147483643), (2, .long 0), (4, .long (-1))]) (st2 := [.int 0]) jF_232_17 rfl rfl) ?_
                                            exact jr_ri jF_232_18 rfl
                                          refine Eq.trans (jr_if1 jF_267_38 (by decide +kernel)) ?_
                                          refine Eq.trans (jr_s (pc2 := 56) (lv2 := [(0, .ref 117), (1, .int (-2147483633))]) (st2 := [.long 0]) jF_267_55 rfl rfl) ?_
                                          exact jr_rl jF_267_56
                                        refine Eq.trans (jr_s (pc2 := 6) (lv2 := [(3, .long 0), (0, .ref 117), (1, .int (-2147483633)), (2, .int a2)]) (st2 := []) jF_266_5 rfl rfl) ?_
                                        refine Eq.trans (jr_s (pc2 := 7) (lv2 := [(3, .long 0), (0, .ref 117), (1, .int (-2147483633)), (2, .int a2)]) (st2 := [.long 0]) jF_266_6 rfl rfl) ?_
                                        refine Eq.trans (jr_s (pc2 := 8) (lv2 := [(3, .long 0), (0, .ref 117), (1, .int (-2147483633)), (2, .int a2)]) (st2 := [.long 0, .long 0]) jF_266_7 rfl rfl) ?_
                                        refine Eq.trans (jr_s (pc2 := 9) (lv2 := [(3, .long 0), (0, .ref 117), (1, .int (-2147483633)), (2, .int a2)]) (st2 := [.int 0]) jF_266_8 rfl rfl) ?_
                                        refine Eq.trans (jr_if1 jF_266_9 (by decide +kernel)) ?_
                                        refine Eq.trans (jr_s (pc2 := 25) (lv2 := [(3, .long 0), (0, .ref 117), (1, .int (-2147483633)), (2, .int a2)]) (st2 := [.int (-1)]) jF_266_24 rfl rfl) ?_
                                        exact jr_ri jF_266_25 rfl
                                    · rcases j_ilt a1.toInt (-2147483631) with h_a1_2147483631m | h_a1_2147483631m
                                      · obtain rfl : a1 = (-2147483632) := Int32.toInt_inj.mp (by rw [show ((-2147483632) : Int32).toInt = (-2147483632) from by decide]; omega)
                                        refine ⟨60000, 60000, (-1), jh2, jh2, ?_, ?_, by decide +kernel⟩
                                        · refine Eq.trans (jr_s (pc2 := 1) (lv2 := [(0, .ref 9), (1, .int (-2147483632)), (2, .int a2)]) (st2 := [.ref 9]) jF_92_0 rfl rfl) ?_
                                          refine Eq.trans (jr_gf (v := .ref 20) jF_92_1 (by decide +kernel)) ?_
                                          refine Eq.trans (jr_s (pc2 := 5) (lv2 := [(0, .ref 9), (1, .int (-2147483632)), (2, .int a2)]) (st2 := [.int (-2147483632), .ref 20]) jF_92_4 rfl rfl) ?_
                                          refine Eq.trans (jr_s (pc2 := 6) (lv2 := [(0, .ref 9), (1, .int (-2147483632)), (2, .int a2)]) (st2 := [.int a2, .int (-2147483632), .ref 20]) jF_92_5 rfl rfl) ?_
                                          refine Eq.trans (jr_cV (a := 20) (as := [.int (-2147483632), .int a2]) (rest := []) (v := some (.int (-1))) (hp2 := jh2) (fr2 := 499) (lo2 := 19978) jF_92_6 (by decide +kernel) rfl (show j_cnd 500 20000 499 19978 3 _ _ = true from rfl) ?_) ?_
                                          · refine Eq.trans (jr_s (pc2 := 1) (lv2 := [(0, .ref 20), (1, .int (-2147483632)), (2, .int a2)]) (st2 := [.int (-2147483632)]) jF_93_0 rfl rfl) ?_
                                            refine Eq.trans (jr_if1 jF_93_1 (by decide +kernel)) ?_
                                            refine Eq.trans (jr_s (pc2 := 33) (lv2 := [(0, .ref 20), (1, .int (-2147483632)), (2, .int a2)]) (st2 := [.int (-1)]) jF_93_32 rfl rfl) ?_
                                            exact jr_ri jF_93_33 rfl
                                          exact jr_ri jF_92_9 rfl
                                        · refine Eq.trans (jr_s (pc2 := 1) (lv2 := [(0, .ref 117), (1, .int (-2147483632)), (2, .int a2)]) (st2 := [.ref 117]) jF_266_0 rfl rfl) ?_
                                          refine Eq.trans (jr_s (pc2 := 2) (lv2 := [(0, .ref 117), (1, .int (-2147483632)), (2, .int a2)]) (st2 := [.int (-2147483632), .ref 117]) jF_266_1 rfl rfl) ?_
                                          refine Eq.trans (jr_cV (a := 117) (as := [.int (-2147483632)]) (rest := []) (v := some (.long 0)) (hp2 := jh2) (fr2 := 499) (lo2 := 19979) jF_266_2 (by decide +kernel) rfl (show j_cnd 500 20000 499 19979 2 _ _ = true from rfl) ?_) ?_
                                          · refine Eq.trans (jr_s (pc2 := 1) (lv2 := [(0, .ref 117), (1, .int (-2147483632))]) (st2 := [.int (-2147483632)]) jF_267_0 rfl rfl) ?_
                                            refine Eq.trans (jr_s (pc2 := 2) (lv2 := [(0, .ref 117), (1, .int (-2147483632))]) (st2 := [.long (-2147483632)]) jF_267_1 rfl rfl) ?_
                                            refine Eq.trans (jr_s (pc2 := 3) (lv2 := [(0, .ref 117), (1, .int (-2147483632))]) (st2 := [.long 0, .long (-2147483632)]) jF_267_2 rfl rfl) ?_
                                            refine Eq.trans (jr_s (pc2 := 6) (lv2 := [(0, .ref 117), (1, .int (-2147483632))]) (st2 := [.long 17, .long 0, .long (-2147483632)]) jF_267_3 rfl rfl) ?_
                                            refine Eq.trans (jr_cS (as := [.long (-2147483632), .long 0, .long 17]) (rest := []) (v := some (.int 0)) (hp2 := jh2) (fr2 := 498) (lo2 := 19954) jF_267_6 rfl (show j_cnd 499 19979 498 19954 6 _ _ = true from rfl) ?_) ?_
                                            · refine Eq.trans (jr_s (pc2 := 1) (lv2 := [(0, .long (-2147483632)), (2, .long 0), (4, .long 17)]) (st2 := [.long (-2147483632)]) jF_232_0 rfl rfl) ?_
                                              refine Eq.trans (jr_s (pc2 := 2) (lv2 := [(0, .long (-2147483632)), (2, .long 0), (4, .long 17)]) (st2 := [.long 0, .long (-2147483632)]) jF_232_1 rfl rfl) ?_
                                              refine Eq.trans (jr_s (pc2 := 3) (lv2 := [(0, .long (-2147483632)), (2, .long 0), (4, .long 17)]) (st2 := [.int (-1)]) jF_232_2 rfl rfl) ?_
                                              refine Eq.trans (jr_if1 jF_232_3 (by decide +kernel)) ?_
                                              refine Eq.trans (jr_s (pc2 := 18) (lv2 := [(0, .long (-2147483632)), (2, .long 0), (4, .long 17)]) (st2 := [.int 0]) jF_232_17 rfl rfl) ?_
                                              exact jr_ri jF_232_18 rfl
                                            refine Eq.trans (jr_if1 jF_267_9 (by decide +kernel)) ?_
                                            refine Eq.trans (jr_s (pc2 := 23) (lv2 := [(0, .ref 117), (1, .int (-2147483632))]) (st2 := [.int (-2147483632)]) jF_267_22 rfl rfl) ?_
                                            refine Eq.trans (jr_s (pc2 := 25) (lv2 := [(0, .ref 117), (1, .int (-2147483632))]) (st2 := [.int 20, .int (-2147483632)]) jF_267_23 rfl rfl) ?_
                                            refine Eq.trans (jr_s (pc2 := 26) (lv2 := [(0, .ref 117), (1, .int (-2147483632))]) (st2 := [.int 2147483644]) jF_267_25 rfl rfl) ?_
                                            refine Eq.trans (jr_s (pc2 := 27) (lv2 := [(0, .ref 117), (1, .int (-2147483632))]) (st2 := [.long 2147483644]) jF_267_26 rfl rfl) ?_
                                            refine Eq.trans (jr_s (pc2 := 28) (lv2 := [(0, .ref 117), (1, .int (-2147483632))]) (st2 := [.long 0, .long 2147483644]) jF_267_27 rfl rfl) ?_
                                            refine Eq.trans (jr_s (pc2 := 29) (lv2 := [(0, .ref 117), (1, .int (-2147483632))]) (st2 := [.ref 117, .long 0, .long 2147483644]) jF_267_28 rfl rfl) ?_
                                            refine Eq.trans (jr_gf (v := .int 0) jF_267_29 (by decide +kernel)) ?_
                                            refine Eq.trans (jr_s (pc2 := 33) (lv2 := [(0, .ref 117), (1, .int (-2147483632))]) (st2 := [.int 1, .int 0, .long 0, .long 2147483644]) jF_267_32 rfl rfl) ?_
                                            refine Eq.trans (jr_s (pc2 := 34) (lv2 := [(0, .ref 117), (1, .int (-2147483632))]) (st2 := [.int (-1), .long 0, .long 2147483644]) jF_267_33 rfl rfl) ?_
                                            refine Eq.trans (jr_s (pc2 := 35) (lv2 := [(0, .ref 117), (1, .int (-2147483632))]) (st2 := [.long (-1), .long 0, .long 2147483644]) jF_267_34 rfl rfl) ?_
                                            refine Eq.trans (jr_cS (as := [.long 2147483644, .long 0, .long (-1)]) (rest := []) (v := some (.int 0)) (hp2 := jh2) (fr2 := 498) (lo2 := 19954) jF_267_35 rfl (show j_cnd 499 19979 498 19954 6 _ _ = true from rfl) ?_) ?_
                                            · refine Eq.trans (jr_s (pc2 := 1) (lv2 := [(0, .long 2147483644), (2, .long 0), (4, .long (-1))]) (st2 := [.long 2147483644]) jF_232_0 rfl rfl) ?_
                                              refine Eq.trans (jr_s (pc2 := 2) (lv2 := [(0, .long 2147483644), (2, .long 0), (4, .long (-1))]) (st2 := [.long 0, .long 2147483644]) jF_232_1 rfl rfl) ?_
                                              refine Eq.trans (jr_s (pc2 := 3) (lv2 := [(0, .long 2147483644), (2, .long 0), (4, .long (-1))]) (st2 := [.int 1]) jF_232_2 rfl rfl) ?_
                                              refine Eq.trans (jr_if0 jF_232_3 (by decide +kernel)) ?_
                                              refine Eq.trans (jr_s (pc2 := 7) (lv2 := [(0, .long 2147483644), (2, .long 0), (4, .long (-1))]) (st2 := [.long 2147483644]) jF_232_6 rfl rfl) ?_
                                              refine Eq.trans (jr_s (pc2 := 9) (lv2 := [(0, .long 2147483644), (2, .long 0), (4, .long (-1))]) (st2 := [.long (-1), .long 2147483644]) jF_232_7 rfl rfl) ?_
                                              refine Eq.trans (jr_s (pc2 := 10) (lv2 := [(0, .long 2147483644), (2, .long 0), (4, .long (-1))]) (st2 := [.int 1]) jF_232_9 rfl rfl) ?_
                                              refine Eq.trans (jr_if1 jF_232_10 (by decide +kernel)) ?_
                                              refine Eq.trans (jr_s (pc2 := 18) (lv2 := [(0, .long 2147483644), (2, .long 0), (4, .long (-1))]) (st2 := [.int 0]) jF_232_17 rfl rfl) ?_
                                              exact jr_ri jF_232_18 rfl
                                            refine Eq.trans (jr_if1 jF_267_38 (by decide +kernel)) ?_
                                            refine Eq.trans (jr_s (pc2 := 56) (lv2 := [(0, .ref 117), (1, .int (-2147483632))]) (st2 := [.long 0]) jF_267_55 rfl rfl) ?_
                                            exact jr_rl jF_267_56
                                          refine Eq.trans (jr_s (pc2 := 6) (lv2 := [(3, .long 0), (0, .ref 117), (1, .int (-2147483632)), (2, .int a2)]) (st2 := []) jF_266_5 rfl rfl) ?_
                                          refine Eq.trans (jr_s (pc2 := 7) (lv2 := [(3, .long 0), (0, .ref 117), (1, .int (-2147483632)), (2, .int a2)]) (st2 := [.long 0]) jF_266_6 rfl rfl) ?_
                                          refine Eq.trans (jr_s (pc2 := 8) (lv2 := [(3, .long 0), (0, .ref 117), (1, .int (-2147483632)), (2, .int a2)]) (st2 := [.long 0, .long 0]) jF_266_7 rfl rfl) ?_
                                          refine Eq.trans (jr_s (pc2 := 9) (lv2 := [(3, .long 0), (0, .ref 117), (1, .int (-2147483632)), (2, .int a2)]) (st2 := [.int 0]) jF_266_8 rfl rfl) ?_
                                          refine Eq.trans (jr_if1 jF_266_9 (by decide +kernel)) ?_
                                          refine Eq.trans (jr_s (pc2 := 25) (lv2 := [(3, .long 0), (0, .ref 117), (1, .int (-2147483632)), (2, .int a2)]) (st2 := [.int (-1)]) jF_266_24 rfl rfl) ?_
                                          exact jr_ri jF_266_25 rfl
                                      · rcases j_ilt a1.toInt (-2147483630) with h_a1_2147483630m | h_a1_2147483630m
                                        · obtain rfl : a1 = (-2147483631) := Int32.toInt_inj.mp (by rw [show ((-2147483631) : Int32).toInt = (-2147483631) from by decide]; omega)
                                          refine ⟨60000, 60000, (-1), jh2, jh2, ?_, ?_, by decide +kernel⟩
                                          · refine Eq.trans (jr_s (pc2 := 1) (lv2 := [(0, .ref 9), (1, .int (-2147483631)), (2, .int a2)]) (st2 := [.ref 9]) jF_92_0 rfl rfl) ?_
                                            refine Eq.trans (jr_gf (v := .ref 20) jF_92_1 (by decide +kernel)) ?_
                                            refine Eq.trans (jr_s (pc2 := 5) (lv2 := [(0, .ref 9), (1, .int (-2147483631)), (2, .int a2)]) (st2 := [.int (-2147483631), .ref 20]) jF_92_4 rfl rfl) ?_
                                            refine Eq.trans (jr_s (pc2 := 6) (lv2 := [(0, .ref 9), (1, .int (-2147483631)), (2, .int a2)]) (st2 := [.int a2, .int (-2147483631), .ref 20]) jF_92_5 rfl rfl) ?_
                                            refine Eq.trans (jr_cV (a := 20) (as := [.int (-2147483631), .int a2]) (rest := []) (v := some (.int (-1))) (hp2 := jh2) (fr2 := 499) (lo2 := 19978) jF_92_6 (by decide +kernel) rfl (show j_cnd 500 20000 499 19978 3 _ _ = true from rfl) ?_) ?_
                                            · refine Eq.trans (jr_s (pc2 := 1) (lv2 := [(0, .ref 20), (1, .int (-2147483631)), (2, .int a2)]) (st2 := [.int (-2147483631)]) jF_93_0 rfl rfl) ?_
                                              refine Eq.trans (jr_if1 jF_93_1 (by decide +kernel)) ?_
                                              refine Eq.trans (jr_s (pc2 := 33) (lv2 := [(0, .ref 20), (1, .int (-2147483631)), (2, .int a2)]) (st2 := [.int (-1)]) jF_93_32 rfl rfl) ?_
                                              exact jr_ri jF_93_33 rfl
                                            exact jr_ri jF_92_9 rfl
                                          · refine Eq.trans (jr_s (pc2 := 1) (lv2 := [(0, .ref 117), (1, .int (-2147483631)), (2, .int a2)]) (st2 := [.ref 117]) jF_266_0 rfl rfl) ?_
                                            refine Eq.trans (jr_s (pc2 := 2) (lv2 := [(0, .ref 117), (1, .int (-2147483631)), (2, .int a2)]) (st2 := [.int (-2147483631), .ref 117]) jF_266_1 rfl rfl) ?_
                                            refine Eq.trans (jr_cV (a := 117) (as := [.int (-2147483631)]) (rest := []) (v := some (.long 0)) (hp2 := jh2) (fr2 := 499) (lo2 := 19979) jF_266_2 (by decide +kernel) rfl (show j_cnd 500 20000 499 19979 2 _ _ = true from rfl) ?_) ?_
                                            · refine Eq.trans (jr_s (pc2 := 1) (lv2 := [(0, .ref 117), (1, .int (-2147483631))]) (st2 := [.int (-2147483631)]) jF_267_0 rfl rfl) ?_
                                              refine Eq.trans (jr_s (pc2 := 2) (lv2 := [(0, .ref 117), (1, .int (-2147483631))]) (st2 := [.long (-2147483631)]) jF_267_1 rfl rfl) ?_
                                              refine Eq.trans (jr_s (pc2 := 3) (lv2 := [(0, .ref 117), (1, .int (-2147483631))]) (st2 := [.long 0, .long (-2147483631)]) jF_267_2 rfl rfl) ?_
                                              refine Eq.trans (jr_s (pc2 := 6) (lv2 := [(0, .ref 117), (1, .int (-2147483631))]) (st2 := [.long 17, .long 0, .long (-2147483631)]) jF_267_3 rfl rfl) ?_
                                              refine Eq.trans (jr_cS (as := [.long (-2147483631), .long 0, .long 17]) (rest := []) (v := some (.int 0)) (hp2 := jh2) (fr2 := 498) (lo2 := 19954) jF_267_6 rfl (show j_cnd 499 19979 498 19954 6 _ _ = true from rfl) ?_) ?_
                                              · refine Eq.trans (jr_s (pc2 := 1) (lv2 := [(0, .long (-2147483631)), (2, .long 0), (4, .long 17)]) (st2 := [.long (-2147483631)]) jF_232_0 rfl rfl) ?_
                                                refine Eq.trans (jr_s (pc2 := 2) (lv2 := [(0, .long (-2147483631)), (2, .long 0), (4, .long 17)]) (st2 := [.long 0, .long (-2147483631)]) jF_232_1 rfl rfl) ?_
                                                refine Eq.trans (jr_s (pc2 := 3) (lv2 := [(0, .long (-2147483631)), (2, .long 0), (4, .long 17)]) (st2 := [.int (-1)]) jF_232_2 rfl rfl) ?_
                                                refine Eq.trans (jr_if1 jF_232_3 (by decide +kernel)) ?_
                                                refine Eq.trans (jr_s (pc2 := 18) (lv2 := [(0, .long (-2147483631)), (2, .long 0), (4, .long 17)]) (st2 := [.int 0]) jF_232_17 rfl rfl) ?_
                                                exact jr_ri jF_232_18 rfl
                                              refine Eq.trans (jr_if1 jF_267_9 (by decide +kernel)) ?_
                                              refine Eq.trans (jr_s (pc2 := 23) (lv2 := [(0, .ref 117), (1, .int (-2147483631))]) (st2 := [.int (-2147483631)]) jF_267_22 rfl rfl) ?_
                                              refine Eq.trans (jr_s (pc2 := 25) (lv2 := [(0, .ref 117), (1, .int (-2147483631))]) (st2 := [.int 20, .int (-2147483631)]) jF_267_23 rfl rfl) ?_
                                              refine Eq.trans (jr_s (pc2 := 26) (lv2 := [(0, .ref 117), (1, .int (-2147483631))]) (st2 := [.int 2147483645]) jF_267_25 rfl rfl) ?_
                                              refine Eq.trans (jr_s (pc2 := 27) (lv2 := [(0, .ref 117), (1, .int (-2147483631))]) (st2 := [.long 2147483645]) jF_267_26 rfl rfl) ?_
                                              refine Eq.trans (jr_s (pc2 := 28) (lv2 := [(0, .ref 117), (1, .int (-2147483631))]) (st2 := [.long 0, .long 2147483645]) jF_267_27 rfl rfl) ?_
                                              refine Eq.trans (jr_s (pc2 := 29) (lv2 := [(0, .ref 117), (1, .int (-2147483631))]) (st2 := [.ref 117, .long 0, .long 2147483645]) jF_267_28 rfl rfl) ?_
                                              refine Eq.trans (jr_gf (v := .int 0) jF_267_29 (by decide +kernel)) ?_
                                              refine Eq.trans (jr_s (pc2 := 33) (lv2 := [(0, .ref 117), (1, .int (-2147483631))]) (st2 := [.int 1, .int 0, .long 0, .long 2147483645]) jF_267_32 rfl rfl) ?_
                                              refine Eq.trans (jr_s (pc2 := 34) (lv2 := [(0, .ref 117), (1, .int (-2147483631))]) (st2 := [.int (-1), .long 0, .long 2147483645]) jF_267_33 rfl rfl) ?_
                                              refine Eq.trans (jr_s (pc2 := 35) (lv2 := [(0, .ref 117), (1, .int (-2147483631))]) (st2 := [.long (-1), .long 0, .long 2147483645]) jF_267_34 rfl rfl) ?_
                                              refine Eq.trans (jr_cS (as := [.long 2147483645, .long 0, .long (-1)]) (rest := []) (v := some (.int 0)) (hp2 := jh2) (fr2 := 498) (lo2 := 19954) jF_267_35 rfl (show j_cnd 499 19979 498 19954 6 _ _ = true from rfl) ?_) ?_
                                              · refine Eq.trans (jr_s (pc2 := 1) (lv2 := [(0, .long 2147483645), (2, .long 0), (4, .long (-1))]) (st2 := [.long 2147483645]) jF_232_0 rfl rfl) ?_
                                                refine Eq.trans (jr_s (pc2 := 2) (lv2 := [(0, .long 2147483645), (2, .long 0), (4, .long (-1))]) (st2 := [.long 0, .long 2147483645]) jF_232_1 rfl rfl) ?_
                                                refine Eq.trans (jr_s (pc2 := 3) (lv2 := [(0, .long 2147483645), (2, .long 0), (4, .long (-1))]) (st2 := [.int 1]) jF_232_2 rfl rfl) ?_
                                                refine Eq.trans (jr_if0 jF_232_3 (by decide +kernel)) ?_
                                                refine Eq.trans (jr_s (pc2 := 7) (lv2 := [(0, .long 2147483645), (2, .long 0), (4, .long (-1))]) (st2 := [.long 2147483645]) jF_232_6 rfl rfl) ?_
                                                refine Eq.trans (jr_s (pc2 := 9) (lv2 := [(0, .long 2147483645), (2, .long 0), (4, .long (-1))]) (st2 := [.long (-1), .long 2147483645]) jF_232_7 rfl rfl) ?_
                                                refine Eq.trans (jr_s (pc2 := 10) (lv2 := [(0, .long 2147483645), (2, .long 0), (4, .long (-1))]) (st2 := [.int 1]) jF_232_9 rfl rfl) ?_
                                                refine Eq.trans (jr_if1 jF_232_10 (by decide +kernel)) ?_
                                                refine Eq.trans (jr_s (pc2 := 18) (lv2 := [(0, .long 2147483645), (2, .long 0), (4, .long (-1))]) (st2 := [.int 0]) jF_232_17 rfl rfl) ?_
                                                exact jr_ri jF_232_18 rfl
                                              refine Eq.trans (jr_if1 jF_267_38 (by decide +kernel)) ?_
                                              refine Eq.trans (jr_s (pc2 := 56) (lv2 := [(0, .ref 117), (1, .int (-2147483631))]) (st2 := [.long 0]) jF_267_55 rfl rfl) ?_
                                              exact jr_rl jF_267_56
                                            refine Eq.trans (jr_s (pc2 := 6) (lv2 := [(3, .long 0), (0, .ref 117), (1, .int (-2147483631)), (2, .int a2)]) (st2 := []) jF_266_5 rfl rfl) ?_
                                            refine Eq.trans (jr_s (pc2 := 7) (lv2 := [(3, .long 0), (0, .ref 117), (1, .int (-2147483631)), (2, .int a2)]) (st2 := [.long 0]) jF_266_6 rfl rfl) ?_
                                            refine Eq.trans (jr_s (pc2 := 8) (lv2 := [(3, .long 0), (0, .ref 117), (1, .int (-2147483631)), (2, .int a2)]) (st2 := [.long 0, .long 0]) jF_266_7 rfl rfl) ?_
                                            refine Eq.trans (jr_s (pc2 := 9) (lv2 := [(3, .long 0), (0, .ref 117), (1, .int (-2147483631)), (2, .int a2)]) (st2 := [.int 0]) jF_266_8 rfl rfl) ?_
                                            refine Eq.trans (jr_if1 jF_266_9 (by decide +kernel)) ?_
                                            refine Eq.trans (jr_s (pc2 := 25) (lv2 := [(3, .long 0), (0, .ref 117), (1, .int (-2147483631)), (2, .int a2)]) (st2 := [.int (-1)]) jF_266_24 rfl rfl) ?_
                                            exact jr_ri jF_266_25 rfl
                                        · rcases j_ilt a1.toInt (-2147483629) with h_a1_2147483629m | h_a1_2147483629m
                                          · obtain rfl : a1 = (-2147483630) := Int32.toInt_inj.mp (by rw [show ((-2147483630) : Int32).toInt = (-2147483630) from by decide]; omega)
                                            refine ⟨60000, 60000, (-1), jh2, jh2, ?_, ?_, by decide +kernel⟩
                                            · refine Eq.trans (jr_s (pc2 := 1) (lv2 := [(0, .ref 9), (1, .int (-2147483630)), (2, .int a2)]) (st2 := [.ref 9]) jF_92_0 rfl rfl) ?_
                                              refine Eq.trans (jr_gf (v := .ref 20) jF_92_1 (by decide +kernel)) ?_
                                              refine Eq.trans (jr_s (pc2 := 5) (lv2 := [(0, .ref 9), (1, .int (-2147483630)), (2, .int a2)]) (st2 := [.int (-2147483630), .ref 20]) jF_92_4 rfl rfl) ?_
                                              refine Eq.trans (jr_s (pc2 := 6) (lv2 := [(0, .ref 9), (1, .int (-2147483630)), (2, .int a2)]) (st2 := [.int a2, .int (-2147483630), .ref 20]) jF_92_5 rfl rfl) ?_
                                              refine Eq.trans (jr_cV (a := 20) (as := [.int (-2147483630), .int a2]) (rest := []) (v := some (.int (-1))) (hp2 := jh2) (fr2 := 499) (lo2 := 19978) jF_92_6 (by decide +kernel) rfl (show j_cnd 500 20000 499 19978 3 _ _ = true from rfl) ?_) ?_
                                              · refine Eq.trans (jr_s (pc2 := 1) (lv2 := [(0, .ref 20), (1, .int (-2147483630)), (2, .int a2)]) (st2 := [.int (-2147483630)]) jF_93_0 rfl rfl) ?_
                                                refine Eq.trans (jr_if1 jF_93_1 (by decide +kernel)) ?_
                                                refine Eq.trans (jr_s (pc2 := 33) (lv2 := [(0, .ref 20), (1, .int (-2147483630)), (2, .int a2)]) (st2 := [.int (-1)]) jF_93_32 rfl rfl) ?_
                                                exact jr_ri jF_93_33 rfl
                                              exact jr_ri jF_92_9 rfl
                                            · refine Eq.trans (jr_s (pc2 := 1) (lv2 := [(0, .ref 117), (1, .int (-2147483630)), (2, .int a2)]) (st2 := [.ref 117]) jF_266_0 rfl rfl) ?_
                                              refine Eq.trans (jr_s (pc2 := 2) (lv2 := [(0, .ref 117), (1, .int (-2147483630)), (2, .int a2)]) (st2 := [.int (-2147483630), .ref 117]) jF_266_1 rfl rfl) ?_
                                              refine Eq.trans (jr_cV (a := 117) (as := [.int (-2147483630)]) (rest := []) (v := some (.long 0)) (hp2 := jh2) (fr2 := 499) (lo2 := 19979) jF_266_2 (by decide +kernel) rfl (show j_cnd 500 20000 499 19979 2 _ _ = true from rfl) ?_) ?_
                                              · refine Eq.trans (jr_s (pc2 := 1) (lv2 := [(0, .ref 117), (1, .int (-2147483630))]) (st2 := [.int (-2147483630)]) jF_267_0 rfl rfl) ?_
                                                refine Eq.trans (jr_s (pc2 := 2) (lv2 := [(0, .ref 117), (1, .int (-2147483630))]) (st2 := [.long (-2147483630)]) jF_267_1 rfl rfl) ?_
                                                refine Eq.trans (jr_s (pc2 := 3) (lv2 := [(0, .ref 117), (1, .int (-2147483630))]) (st2 := [.long 0, .long (-2147483630)]) jF_267_2 rfl rfl) ?_
                                                refine Eq.trans (jr_s (pc2 := 6) (lv2 := [(0, .ref 117), (1, .int (-2147483630))]) (st2 := [.long 17, .long 0, .long (-2147483630)]) jF_267_3 rfl rfl) ?_
                                                refine Eq.trans (jr_cS (as := [.long (-2147483630), .long 0, .long 17]) (rest := []) (v := some (.int 0)) (hp2 := jh2) (fr2 := 498) (lo2 := 19954) jF_267_6 rfl (show j_cnd 499 19979 498 19954 6 _ _ = true from rfl) ?_) ?_
                                                · refine Eq.trans (jr_s (pc2 := 1) (lv2 := [(0, .long (-2147483630)), (2, .long 0), (4, .long 17)]) (st2 := [.long (-2147483630)]) jF_232_0 rfl rfl) ?_
                                                  refine Eq.trans (jr_s (pc2 := 2) (lv2 := [(0, .long (-2147483630)), (2, .long 0), (4, .long 17)]) (st2 := [.long 0, .long (-2147483630)]) jF_232_1 rfl rfl) ?_
                                                  refine Eq.trans (jr_s (pc2 := 3) (lv2 := [(0, .long (-2147483630)), (2, .long 0), (4, .long 17)]) (st2 := [.int (-1)]) jF_232_2 rfl rfl) ?_
                                                  refine Eq.trans (jr_if1 jF_232_3 (by decide +kernel)) ?_
                                                  refine Eq.trans (jr_s (pc2 := 18) (lv2 := [(0, .long (-2147483630)), (2, .long 0), (4, .long 17)]) (st2 := [.int 0]) jF_232_17 rfl rfl) ?_
                                                  exact jr_ri jF_232_18 rfl
                                                refine Eq.trans (jr_if1 jF_267_9 (by decide +kernel)) ?_
                                                refine Eq.trans (jr_s (pc2 := 23) (lv2 := [(0, .ref 117), (1, .int (-2147483630))]) (st2 := [.int (-2147483630)]) jF_267_22 rfl rfl) ?_
                                                refine Eq.trans (jr_s (pc2 := 25) (lv2 := [(0, .ref 117), (1, .int (-2147483630))]) (st2 := [.int 20, .int (-2147483630)]) jF_267_23 rfl rfl) ?_
                                                refine Eq.trans (jr_s (pc2 := 26) (lv2 := [(0, .ref 117), (1, .int (-2147483630))]) (st2 := [.int 2147483646]) jF_267_25 rfl rfl) ?_
                                                refine Eq.trans (jr_s (pc2 := 27) (lv2 := [(0, .ref 117), (1, .int (-2147483630))]) (st2 := [.long 2147483646]) jF_267_26 rfl rfl) ?_
                                                refine Eq.trans (jr_s (pc2 := 28) (lv2 := [(0, .ref 117), (1, .int (-2147483630))]) (st2 := [.long 0, .long 2147483646]) jF_267_27 rfl rfl) ?_
                                                refine Eq.trans (jr_s (pc2 := 29) (lv2 := [(0, .ref 117), (1, .int (-2147483630))]) (st2 := [.ref 117, .long 0, .long 2147483646]) jF_267_28 rfl rfl) ?_
                                                refine Eq.trans (jr_gf (v := .int 0) jF_267_29 (by decide +kernel)) ?_
                                                refine Eq.trans (jr_s (pc2 := 33) (lv2 := [(0, .ref 117), (1, .int (-2147483630))]) (st2 := [.int 1, .int 0, .long 0, .long 2147483646]) jF_267_32 rfl rfl) ?_
                                                refine Eq.trans (jr_s (pc2 := 34) (lv2 := [(0, .ref 117), (1, .int (-2147483630))]) (st2 := [.int (-1), .long 0, .long 2147483646]) jF_267_33 rfl rfl) ?_
                                                refine Eq.trans (jr_s (pc2 := 35) (lv2 := [(0, .ref 117), (1, .int (-2147483630))]) (st2 := [.long (-1), .long 0, .long 2147483646]) jF_267_34 rfl rfl) ?_
                                                refine Eq.trans (jr_cS (as := [.long 2147483646, .long 0, .long (-1)]) (rest := []) (v := some (.int 0)) (hp2 := jh2) (fr2 := 498) (lo2 := 19954) jF_267_35 rfl (show j_cnd 499 19979 498 19954 6 _ _ = true from rfl) ?_) ?_
                                                · refine Eq.trans (jr_s (pc2 := 1) (lv2 := [(0, .long 2147483646), (2, .long 0), (4, .long (-1))]) (st2 := [.long 2147483646]) jF_232_0 rfl rfl) ?_
                                                  refine Eq.trans (jr_s (pc2 := 2) (lv2 := [(0, .long 2147483646), (2, .long 0), (4, .long (-1))]) (st2 := [.long 0, .long 2147483646]) jF_232_1 rfl rfl) ?_
                                                  refine Eq.trans (jr_s (pc2 := 3) (lv2 := [(0, .long 2147483646), (2, .long 0), (4, .long (-1))]) (st2 := [.int 1]) jF_232_2 rfl rfl) ?_
                                                  refine Eq.trans (jr_if0 jF_232_3 (by decide +kernel)) ?_
                                                  refine Eq.trans (jr_s (pc2 := 7) (lv2 := [(0, .long 2147483646), (2, .long 0), (4, .long (-1))]) (st2 := [.long 2147483646]) jF_232_6 rfl rfl) ?_
                                                  refine Eq.trans (jr_s (pc2 := 9) (lv2 := [(0, .long 2147483646), (2, .long 0), (4, .long (-1))]) (st2 := [.long (-1), .long 2147483646]) jF_232_7 rfl rfl) ?_
                                                  refine Eq.trans (jr_s (pc2 := 10) (lv2 := [(0, .long 2147483646), (2, .long 0), (4, .long (-1))]) (st2 := [.int 1]) jF_232_9 rfl rfl) ?_
                                                  refine Eq.trans (jr_if1 jF_232_10 (by decide +kernel)) ?_
                                                  refine Eq.trans (jr_s (pc2 := 18) (lv2 := [(0, .long 2147483646), (2, .long 0), (4, .long (-1))]) (st2 := [.int 0]) jF_232_17 rfl rfl) ?_
                                                  exact jr_ri jF_232_18 rfl
                                                refine Eq.trans (jr_if1 jF_267_38 (by decide +kernel)) ?_
                                                refine Eq.trans (jr_s (pc2 := 56) (lv2 := [(0, .ref 117), (1, .int (-2147483630))]) (st2 := [.long 0]) jF_267_55 rfl rfl) ?_
                                                exact jr_rl jF_267_56
                                              refine Eq.trans (jr_s (pc2 := 6) (lv2 := [(3, .long 0), (0, .ref 117), (1, .int (-2147483630)), (2, .int a2)]) (st2 := []) jF_266_5 rfl rfl) ?_
                                              refine Eq.trans (jr_s (pc2 := 7) (lv2 := [(3, .long 0), (0, .ref 117), (1, .int (-2147483630)), (2, .int a2)]) (st2 := [.long 0]) jF_266_6 rfl rfl) ?_
                                              refine Eq.trans (jr_s (pc2 := 8) (lv2 := [(3, .long 0), (0, .ref 117), (1, .int (-2147483630)), (2, .int a2)]) (st2 := [.long 0, .long 0]) jF_266_7 rfl rfl) ?_
                                              refine Eq.trans (jr_s (pc2 := 9) (lv2 := [(3, .long 0), (0, .ref 117), (1, .int (-2147483630)), (2, .int a2)]) (st2 := [.int 0]) jF_266_8 rfl rfl) ?_
                                              refine Eq.trans (jr_if1 jF_266_9 (by decide +kernel)) ?_
                                              refine Eq.trans (jr_s (pc2 := 25) (lv2 := [(3, .long 0), (0, .ref 117), (1, .int (-2147483630)), (2, .int a2)]) (st2 := [.int (-1)]) jF_266_24 rfl rfl) ?_
                                              exact jr_ri jF_266_25 rfl
                                          · obtain rfl : a1 = (-2147483629) := Int32.toInt_inj.mp (by rw [show ((-2147483629) : Int32).toInt = (-2147483629) from by decide]; omega)
                                            refine ⟨60000, 60000, (-1), jh2, jh2, ?_, ?_, by decide +kernel⟩
                                            · refine Eq.trans (jr_s (pc2 := 1) (lv2 := [(0, .ref 9), (1, .int (-2147483629)), (2, .int a2)]) (st2 := [.ref 9]) jF_92_0 rfl rfl) ?_
                                              refine Eq.trans (jr_gf (v := .ref 20) jF_92_1 (by decide +kernel)) ?_
                                              refine Eq.trans (jr_s (pc2 := 5) (lv2 := [(0, .ref 9), (1, .int (-2147483629)), (2, .int a2)]) (st2 := [.int (-2147483629), .ref 20]) jF_92_4 rfl rfl) ?_
                                              refine Eq.trans (jr_s (pc2 := 6) (lv2 := [(0, .ref 9), (1, .int (-2147483629)), (2, .int a2)]) (st2 := [.int a2, .int (-2147483629), .ref 20]) jF_92_5 rfl rfl) ?_
                                              refine Eq.trans (jr_cV (a := 20) (as := [.int (-2147483629), .int a2]) (rest := []) (v := some (.int (-1))) (hp2 := jh2) (fr2 := 499) (lo2 := 19978) jF_92_6 (by decide +kernel) rfl (show j_cnd 500 20000 499 19978 3 _ _ = true from rfl) ?_) ?_
                                              · refine Eq.trans (jr_s (pc2 := 1) (lv2 := [(0, .ref 20), (1, .int (-2147483629)), (2, .int a2)]) (st2 := [.int (-2147483629)]) jF_93_0 rfl rfl) ?_
                                                refine Eq.trans (jr_if1 jF_93_1 (by decide +kernel)) ?_
                                                refine Eq.trans (jr_s (pc2 := 33) (lv2 := [(0, .ref 20), (1, .int (-2147483629)), (2, .int a2)]) (st2 := [.int (-1)]) jF_93_32 rfl rfl) ?_
                                                exact jr_ri jF_93_33 rfl
                                              exact jr_ri jF_92_9 rfl
                                            · refine Eq.trans (jr_s (pc2 := 1) (lv2 := [(0, .ref 117), (1, .int (-2147483629)), (2, .int a2)]) (st2 := [.ref 117]) jF_266_0 rfl rfl) ?_
                                              refine Eq.trans (jr_s (pc2 := 2) (lv2 := [(0, .ref 117), (1, .int (-2147483629)), (2, .int a2)]) (st2 := [.int (-2147483629), .ref 117]) jF_266_1 rfl rfl) ?_
                                              refine Eq.trans (jr_cV (a := 117) (as := [.int (-2147483629)]) (rest := []) (v := some (.long 0)) (hp2 := jh2) (fr2 := 499) (lo2 := 19979) jF_266_2 (by decide +kernel) rfl (show j_cnd 500 20000 499 19979 2 _ _ = true from rfl) ?_) ?_
                                              · refine Eq.trans (jr_s (pc2 := 1) (lv2 := [(0, .ref 117), (1, .int (-2147483629))]) (st2 := [.int (-2147483629)]) jF_267_0 rfl rfl) ?_
                                                refine Eq.trans (jr_s (pc2 := 2) (lv2 := [(0, .ref 117), (1, .int (-2147483629))]) (st2 := [.long (-2147483629)]) jF_267_1 rfl rfl) ?_
                                                refine Eq.trans (jr_s (pc2 := 3) (lv2 := [(0, .ref 117), (1, .int (-2147483629))]) (st2 := [.long 0, .long (-2147483629)]) jF_267_2 rfl rfl) ?_
                                                refine Eq.trans (jr_s (pc2 := 6) (lv2 := [(0, .ref 117), (1, .int (-2147483629))]) (st2 := [.long 17, .long 0, .long (-2147483629)]) jF_267_3 rfl rfl) ?_
                                                refine Eq.trans (jr_cS (as := [.long (-2147483629), .long 0, .long 17]) (rest := []) (v := some (.int 0)) (hp2 := jh2) (fr2 := 498) (lo2 := 19954) jF_267_6 rfl (show j_cnd 499 19979 498 19954 6 _ _ = true from rfl) ?_) ?_
                                                · refine Eq.trans (jr_s (pc2 := 1) (lv2 := [(0, .long (-2147483629)), (2, .long 0), (4, .long 17)]) (st2 := [.long (-2147483629)]) jF_232_0 rfl rfl) ?_
                                                  refine Eq.trans (jr_s (pc2 := 2) (lv2 := [(0, .long (-2147483629)), (2, .long 0), (4, .long 17)]) (st2 := [.long 0, .long (-2147483629)]) jF_232_1 rfl rfl) ?_
                                                  refine Eq.trans (jr_s (pc2 := 3) (lv2 := [(0, .long (-2147483629)), (2, .long 0), (4, .long 17)]) (st2 := [.int (-1)]) jF_232_2 rfl rfl) ?_
                                                  refine Eq.trans (jr_if1 jF_232_3 (by decide +kernel)) ?_
                                                  refine Eq.trans (jr_s (pc2 := 18) (lv2 := [(0, .long (-2147483629)), (2, .long 0), (4, .long 17)]) (st2 := [.int 0]) jF_232_17 rfl rfl) ?_
                                                  exact jr_ri jF_232_18 rfl
                                                refine Eq.trans (jr_if1 jF_267_9 (by decide +kernel)) ?_
                                                refine Eq.trans (jr_s (pc2 := 23) (lv2 := [(0, .ref 117), (1, .int (-2147483629))]) (st2 := [.int (-2147483629)]) jF_267_22 rfl rfl) ?_
                                                refine Eq.trans (jr_s (pc2 := 25) (lv2 := [(0, .ref 117), (1, .int (-2147483629))]) (st2 := [.int 20, .int (-2147483629)]) jF_267_23 rfl rfl) ?_
                                                refine Eq.trans (jr_s (pc2 := 26) (lv2 := [(0, .ref 117), (1, .int (-2147483629))]) (st2 := [.int 2147483647]) jF_267_25 rfl rfl) ?_
                                                refine Eq.trans (jr_s (pc2 := 27) (lv2 := [(0, .ref 117), (1, .int (-2147483629))]) (st2 := [.long 2147483647]) jF_267_26 rfl rfl) ?_
                                                refine Eq.trans (jr_s (pc2 := 28) (lv2 := [(0, .ref 117), (1, .int (-2147483629))]) (st2 := [.long 0, .long 2147483647]) jF_267_27 rfl rfl) ?_
                                                refine Eq.trans (jr_s (pc2 := 29) (lv2 := [(0, .ref 117), (1, .int (-2147483629))]) (st2 := [.ref 117, .long 0, .long 2147483647]) jF_267_28 rfl rfl) ?_
                                                refine Eq.trans (jr_gf (v := .int 0) jF_267_29 (by decide +kernel)) ?_
                                                refine Eq.trans (jr_s (pc2 := 33) (lv2 := [(0, .ref 117), (1, .int (-2147483629))]) (st2 := [.int 1, .int 0, .long 0, .long 2147483647]) jF_267_32 rfl rfl) ?_
                                                refine Eq.trans (jr_s (pc2 := 34) (lv2 := [(0, .ref 117), (1, .int (-2147483629))]) (st2 := [.int (-1), .long 0, .long 2147483647]) jF_267_33 rfl rfl) ?_
                                                refine Eq.trans (jr_s (pc2 := 35) (lv2 := [(0, .ref 117), (1, .int (-2147483629))]) (st2 := [.long (-1), .long 0, .long 2147483647]) jF_267_34 rfl rfl) ?_
                                                refine Eq.trans (jr_cS (as := [.long 2147483647, .long 0, .long (-1)]) (rest := []) (v := some (.int 0)) (hp2 := jh2) (fr2 := 498) (lo2 := 19954) jF_267_35 rfl (show j_cnd 499 19979 498 19954 6 _ _ = true from rfl) ?_) ?_
                                                · refine Eq.trans (jr_s (pc2 := 1) (lv2 := [(0, .long 2147483647), (2, .long 0), (4, .long (-1))]) (st2 := [.long 2147483647]) jF_232_0 rfl rfl) ?_
                                                  refine Eq.trans (jr_s (pc2 := 2) (lv2 := [(0, .long 2147483647), (2, .long 0), (4, .long (-1))]) (st2 := [.long 0, .long 2147483647]) jF_232_1 rfl rfl) ?_
                                                  refine Eq.trans (jr_s (pc2 := 3) (lv2 := [(0, .long 2147483647), (2, .long 0), (4, .long (-1))]) (st2 := [.int 1]) jF_232_2 rfl rfl) ?_
                                                  refine Eq.trans (jr_if0 jF_232_3 (by decide +kernel)) ?_
                                                  refine Eq.trans (jr_s (pc2 := 7) (lv2 := [(0, .long 2147483647), (2, .long 0), (4, .long (-1))]) (st2 := [.long 2147483647]) jF_232_6 rfl rfl) ?_
                                                  refine Eq.trans (jr_s (pc2 := 9) (lv2 := [(0, .long 2147483647), (2, .long 0), (4, .long (-1))]) (st2 := [.long (-1), .long 2147483647]) jF_232_7 rfl rfl) ?_
                                                  refine Eq.trans (jr_s (pc2 := 10) (lv2 := [(0, .long 2147483647), (2, .long 0), (4, .long (-1))]) (st2 := [.int 1]) jF_232_9 rfl rfl) ?_
                                                  refine Eq.trans (jr_if1 jF_232_10 (by decide +kernel)) ?_
                                                  refine Eq.trans (jr_s (pc2 := 18) (lv2 := [(0, .long 2147483647), (2, .long 0), (4, .long (-1))]) (st2 := [.int 0]) jF_232_17 rfl rfl) ?_
                                                  exact jr_ri jF_232_18 rfl
                                                refine Eq.trans (jr_if1 jF_267_38 (by decide +kernel)) ?_
                                                refine Eq.trans (jr_s (pc2 := 56) (lv2 := [(0, .ref 117), (1, .int (-2147483629))]) (st2 := [.long 0]) jF_267_55 rfl rfl) ?_
                                                exact jr_rl jF_267_56
                                              refine Eq.trans (jr_s (pc2 := 6) (lv2 := [(3, .long 0), (0, .ref 117), (1, .int (-2147483629)), (2, .int a2)]) (st2 := []) jF_266_5 rfl rfl) ?_
                                              refine Eq.trans (jr_s (pc2 := 7) (lv2 := [(3, .long 0), (0, .ref 117), (1, .int (-2147483629)), (2, .int a2)]) (st2 := [.long 0]) jF_266_6 rfl rfl) ?_
                                              refine Eq.trans (jr_s (pc2 := 8) (lv2 := [(3, .long 0), (0, .ref 117), (1, .int (-2147483629)), (2, .int a2)]) (st2 := [.long 0, .long 0]) jF_266_7 rfl rfl) ?_
                                              refine Eq.trans (jr_s (pc2 := 9) (lv2 := [(3, .long 0), (0, .ref 117), (1, .int (-2147483629)), (2, .int a2)]) (st2 := [.int 0]) jF_266_8 rfl rfl) ?_
                                              refine Eq.trans (jr_if1 jF_266_9 (by decide +kernel)) ?_
                                              refine Eq.trans (jr_s (pc2 := 25) (lv2 := [(3, .long 0), (0, .ref 117), (1, .int (-2147483629)), (2, .int a2)]) (st2 := [.int (-1)]) jF_266_24 rfl rfl) ?_
                                              exact jr_ri jF_266_25 rfl
    · refine ⟨60000, 60000, (-1), jh2, jh2, ?_, ?_, by decide +kernel⟩
      · refine Eq.trans (jr_s (pc2 := 1) (lv2 := [(0, .ref 9), (1, .int a1), (2, .int a2)]) (st2 := [.ref 9]) jF_92_0 rfl rfl) ?_
        refine Eq.trans (jr_gf (v := .ref 20) jF_92_1 (by decide +kernel)) ?_
        refine Eq.trans (jr_s (pc2 := 5) (lv2 := [(0, .ref 9), (1, .int a1), (2, .int a2)]) (st2 := [.int a1, .ref 20]) jF_92_4 rfl rfl) ?_
        refine Eq.trans (jr_s (pc2 := 6) (lv2 := [(0, .ref 9), (1, .int a1), (2, .int a2)]) (st2 := [.int a2, .int a1, .ref 20]) jF_92_5 rfl rfl) ?_
        refine Eq.trans (jr_cV (a := 20) (as := [.int a1, .int a2]) (rest := []) (v := some (.int (-1))) (hp2 := jh2) (fr2 := 499) (lo2 := 19978) jF_92_6 (by decide +kernel) rfl (show j_cnd 500 20000 499 19978 3 _ _ = true from rfl) ?_) ?_
        · refine Eq.trans (jr_s (pc2 := 1) (lv2 := [(0, .ref 20), (1, .int a1), (2, .int a2)]) (st2 := [.int a1]) jF_93_0 rfl rfl) ?_
          refine Eq.trans (jr_if1 jF_93_1 (jk_lt_lt (show (a1 : Int32).toInt < (0 : Int32).toInt by rw [show (0 : Int32).toInt = 0 from by decide]; omega))) ?_
          refine Eq.trans (jr_s (pc2 := 33) (lv2 := [(0, .ref 20), (1, .int a1), (2, .int a2)]) (st2 := [.int (-1)]) jF_93_32 rfl rfl) ?_
          exact jr_ri jF_93_33 rfl
        exact jr_ri jF_92_9 rfl
      · refine Eq.trans (jr_s (pc2 := 1) (lv2 := [(0, .ref 117), (1, .int a1), (2, .int a2)]) (st2 := [.ref 117]) jF_266_0 rfl rfl) ?_
        refine Eq.trans (jr_s (pc2 := 2) (lv2 := [(0, .ref 117), (1, .int a1), (2, .int a2)]) (st2 := [.int a1, .ref 117]) jF_266_1 rfl rfl) ?_
        refine Eq.trans (jr_cV (a := 117) (as := [.int a1]) (rest := []) (v := some (.long 0)) (hp2 := jh2) (fr2 := 499) (lo2 := 19979) jF_266_2 (by decide +kernel) rfl (show j_cnd 500 20000 499 19979 2 _ _ = true from rfl) ?_) ?_
        · refine Eq.trans (jr_s (pc2 := 1) (lv2 := [(0, .ref 117), (1, .int a1)]) (st2 := [.int a1]) jF_267_0 rfl rfl) ?_
          refine Eq.trans (jr_s (pc2 := 2) (lv2 := [(0, .ref 117), (1, .int a1)]) (st2 := [.long (Int32.toInt64 a1)]) jF_267_1 rfl rfl) ?_
          refine Eq.trans (jr_s (pc2 := 3) (lv2 := [(0, .ref 117), (1, .int a1)]) (st2 := [.long 0, .long (Int32.toInt64 a1)]) jF_267_2 rfl rfl) ?_
          refine Eq.trans (jr_s (pc2 := 6) (lv2 := [(0, .ref 117), (1, .int a1)]) (st2 := [.long 17, .long 0, .long (Int32.toInt64 a1)]) jF_267_3 rfl rfl) ?_
          refine Eq.trans (jr_cS (as := [.long (Int32.toInt64 a1), .long 0, .long 17]) (rest := []) (v := some (.int 0)) (hp2 := jh2) (fr2 := 498) (lo2 := 19954) jF_267_6 rfl (show j_cnd 499 19979 498 19954 6 _ _ = true from rfl) ?_) ?_
          · refine Eq.trans (jr_s (pc2 := 1) (lv2 := [(0, .long (Int32.toInt64 a1)), (2, .long 0), (4, .long 17)]) (st2 := [.long (Int32.toInt64 a1)]) jF_232_0 rfl rfl) ?_
            refine Eq.trans (jr_s (pc2 := 2) (lv2 := [(0, .long (Int32.toInt64 a1)), (2, .long 0), (4, .long 17)]) (st2 := [.long 0, .long (Int32.toInt64 a1)]) jF_232_1 rfl rfl) ?_
            refine Eq.trans (jr_s (pc2 := 3) (lv2 := [(0, .long (Int32.toInt64 a1)), (2, .long 0), (4, .long 17)]) (st2 := [.int (lg_cmp (Int32.toInt64 a1) 0)]) jF_232_2 rfl rfl) ?_
            refine Eq.trans (jr_if1 jF_232_3 (jkl_lt_lt (show ((Int32.toInt64 a1) : Int64).toInt < (0 : Int64).toInt by rw [Int32.toInt_toInt64, show (0 : Int64).toInt = 0 from by decide]; omega))) ?_
            refine Eq.trans (jr_s (pc2 := 18) (lv2 := [(0, .long (Int32.toInt64 a1)), (2, .long 0), (4, .long 17)]) (st2 := [.int 0]) jF_232_17 rfl rfl) ?_
            exact jr_ri jF_232_18 rfl
          refine Eq.trans (jr_if1 jF_267_9 (by decide +kernel)) ?_
          refine Eq.trans (jr_s (pc2 := 23) (lv2 := [(0, .ref 117), (1, .int a1)]) (st2 := [.int a1]) jF_267_22 rfl rfl) ?_
          refine Eq.trans (jr_s (pc2 := 25) (lv2 := [(0, .ref 117), (1, .int a1)]) (st2 := [.int 20, .int a1]) jF_267_23 rfl rfl) ?_
          refine Eq.trans (jr_s (pc2 := 26) (lv2 := [(0, .ref 117), (1, .int a1)]) (st2 := [.int (a1 - 20)]) jF_267_25 rfl rfl) ?_
          refine Eq.trans (jr_s (pc2 := 27) (lv2 := [(0, .ref 117), (1, .int a1)]) (st2 := [.long (Int32.toInt64 (a1 - 20))]) jF_267_26 rfl rfl) ?_
          refine Eq.trans (jr_s (pc2 := 28) (lv2 := [(0, .ref 117), (1, .int a1)]) (st2 := [.long 0, .long (Int32.toInt64 (a1 - 20))]) jF_267_27 rfl rfl) ?_
          refine Eq.trans (jr_s (pc2 := 29) (lv2 := [(0, .ref 117), (1, .int a1)]) (st2 := [.ref 117, .long 0, .long (Int32.toInt64 (a1 - 20))]) jF_267_28 rfl rfl) ?_
          refine Eq.trans (jr_gf (v := .int 0) jF_267_29 (by decide +kernel)) ?_
          refine Eq.trans (jr_s (pc2 := 33) (lv2 := [(0, .ref 117), (1, .int a1)]) (st2 := [.int 1, .int 0, .long 0, .long (Int32.toInt64 (a1 - 20))]) jF_267_32 rfl rfl) ?_
          refine Eq.trans (jr_s (pc2 := 34) (lv2 := [(0, .ref 117), (1, .int a1)]) (st2 := [.int (-1), .long 0, .long (Int32.toInt64 (a1 - 20))]) jF_267_33 rfl rfl) ?_
          refine Eq.trans (jr_s (pc2 := 35) (lv2 := [(0, .ref 117), (1, .int a1)]) (st2 := [.long (-1), .long 0, .long (Int32.toInt64 (a1 - 20))]) jF_267_34 rfl rfl) ?_
          refine Eq.trans (jr_cS (as := [.long (Int32.toInt64 (a1 - 20)), .long 0, .long (-1)]) (rest := []) (v := some (.int 0)) (hp2 := jh2) (fr2 := 498) (lo2 := 19954) jF_267_35 rfl (show j_cnd 499 19979 498 19954 6 _ _ = true from rfl) ?_) ?_
          · refine Eq.trans (jr_s (pc2 := 1) (lv2 := [(0, .long (Int32.toInt64 (a1 - 20))), (2, .long 0), (4, .long (-1))]) (st2 := [.long (Int32.toInt64 (a1 - 20))]) jF_232_0 rfl rfl) ?_
            refine Eq.trans (jr_s (pc2 := 2) (lv2 := [(0, .long (Int32.toInt64 (a1 - 20))), (2, .long 0), (4, .long (-1))]) (st2 := [.long 0, .long (Int32.toInt64 (a1 - 20))]) jF_232_1 rfl rfl) ?_
            refine Eq.trans (jr_s (pc2 := 3) (lv2 := [(0, .long (Int32.toInt64 (a1 - 20))), (2, .long 0), (4, .long (-1))]) (st2 := [.int (lg_cmp (Int32.toInt64 (a1 - 20)) 0)]) jF_232_2 rfl rfl) ?_
            refine Eq.trans (jr_if1 jF_232_3 (jkl_lt_lt (show ((Int32.toInt64 (a1 - 20)) : Int64).toInt < (0 : Int64).toInt by rw [Int32.toInt_toInt64, jo_sub (x := a1) (k := 20) (n := 20) (by decide) (by omega) (by omega), show (0 : Int64).toInt = 0 from by decide]; omega))) ?_
            refine Eq.trans (jr_s (pc2 := 18) (lv2 := [(0, .long (Int32.toInt64 (a1 - 20))), (2, .long 0), (4, .long (-1))]) (st2 := [.int 0]) jF_232_17 rfl rfl) ?_
            exact jr_ri jF_232_18 rfl
          refine Eq.trans (jr_if1 jF_267_38 (by decide +kernel)) ?_
          refine Eq.trans (jr_s (pc2 := 56) (lv2 := [(0, .ref 117), (1, .int a1)]) (st2 := [.long 0]) jF_267_55 rfl rfl) ?_
          exact jr_rl jF_267_56
        refine Eq.trans (jr_s (pc2 := 6) (lv2 := [(3, .long 0), (0, .ref 117), (1, .int a1), (2, .int a2)]) (st2 := []) jF_266_5 rfl rfl) ?_
        refine Eq.trans (jr_s (pc2 := 7) (lv2 := [(3, .long 0), (0, .ref 117), (1, .int a1), (2, .int a2)]) (st2 := [.long 0]) jF_266_6 rfl rfl) ?_
        refine Eq.trans (jr_s (pc2 := 8) (lv2 := [(3, .long 0), (0, .ref 117), (1, .int a1), (2, .int a2)]) (st2 := [.long 0, .long 0]) jF_266_7 rfl rfl) ?_
        refine Eq.trans (jr_s (pc2 := 9) (lv2 := [(3, .long 0), (0, .ref 117), (1, .int a1), (2, .int a2)]) (st2 := [.int 0]) jF_266_8 rfl rfl) ?_
        refine Eq.trans (jr_if1 jF_266_9 (by decide +kernel)) ?_
        refine Eq.trans (jr_s (pc2 := 25) (lv2 := [(3, .long 0), (0, .ref 117), (1, .int a1), (2, .int a2)]) (st2 := [.int (-1)]) jF_266_24 rfl rfl) ?_
        exact jr_ri jF_266_25 rfl
  · rcases j_ilt a1.toInt 25 with h_a1_25 | h_a1_25
    · rcases j_ilt a2.toInt 0 with h_a2_0 | h_a2_0
      · rcases j_ilt a1.toInt 18 with h_a1_18 | h_a1_18
        · rcases j_ilt a1.toInt 1 with h_a1_1 | h_a1_1
          · obtain rfl : a1 = 0 := Int32.toInt_inj.mp (by rw [show (0 : Int32).toInt = 0 from by decide]; omega)
            refine ⟨60000, 60000, (-1), jh2, jh2, ?_, ?_, by decide +kernel⟩
            · refine Eq.trans (jr_s (pc2 := 1) (lv2 := [(0, .ref 9), (1, .int 0), (2, .int a2)]) (st2 := [.ref 9]) jF_92_0 rfl rfl) ?_
              refine Eq.trans (jr_gf (v := .ref 20) jF_92_1 (by decide +kernel)) ?_
              refine Eq.trans (jr_s (pc2 := 5) (lv2 := [(0, .ref 9), (1, .int 0), (2, .int a2)]) (st2 := [.int 0, .ref 20]) jF_92_4 rfl rfl) ?_
              refine Eq.trans (jr_s (pc2 := 6) (lv2 := [(0, .ref 9), (1, .int 0), (2, .int a2)]) (st2 := [.int a2, .int 0, .ref 20]) jF_92_5 rfl rfl) ?_
              refine Eq.trans (jr_cV (a := 20) (as := [.int 0, .int a2]) (rest := []) (v := some (.int (-1))) (hp2 := jh2) (fr2 := 499) (lo2 := 19978) jF_92_6 (by decide +kernel) rfl (show j_cnd 500 20000 499 19978 3 _ _ = true from rfl) ?_) ?_
              · refine Eq.trans (jr_s (pc2 := 1) (lv2 := [(0, .ref 20), (1, .int 0), (2, .int a2)]) (st2 := [.int 0]) jF_93_0 rfl rfl) ?_
                refine Eq.trans (jr_if0 jF_93_1 (by decide +kernel)) ?_
                refine Eq.trans (jr_s (pc2 := 5) (lv2 := [(0, .ref 20), (1, .int 0), (2, .int a2)]) (st2 := [.int 0]) jF_93_4 rfl rfl) ?_
                refine Eq.trans (jr_s (pc2 := 6) (lv2 := [(0, .ref 20), (1, .int 0), (2, .int a2)]) (st2 := [.ref 20, .int 0]) jF_93_5 rfl rfl) ?_
                refine Eq.trans (jr_gf (v := .ref 21) jF_93_6 (by decide +kernel)) ?_
                refine Eq.trans (jr_al (v := 25) jF_93_9 (by decide +kernel)) ?_
                refine Eq.trans (jr_ic0 jF_93_10 (by decide +kernel)) ?_
                refine Eq.trans (jr_s (pc2 := 14) (lv2 := [(0, .ref 20), (1, .int 0), (2, .int a2)]) (st2 := [.int a2]) jF_93_13 rfl rfl) ?_
                refine Eq.trans (jr_if1 jF_93_14 (jk_lt_lt (show (a2 : Int32).toInt < (0 : Int32).toInt by rw [show (0 : Int32).toInt = 0 from by decide]; omega))) ?_
                refine Eq.trans (jr_s (pc2 := 33) (lv2 := [(0, .ref 20), (1, .int 0), (2, .int a2)]) (st2 := [.int (-1)]) jF_93_32 rfl rfl) ?_
                exact jr_ri jF_93_33 rfl
              exact jr_ri jF_92_9 rfl
            · refine Eq.trans (jr_s (pc2 := 1) (lv2 := [(0, .ref 117), (1, .int 0), (2, .int a2)]) (st2 := [.ref 117]) jF_266_0 rfl rfl) ?_
              refine Eq.trans (jr_s (pc2 := 2) (lv2 := [(0, .ref 117), (1, .int 0), (2, .int a2)]) (st2 := [.int 0, .ref 117]) jF_266_1 rfl rfl) ?_
              refine Eq.trans (jr_cV (a := 117) (as := [.int 0]) (rest := []) (v := some (.long 0)) (hp2 := jh2) (fr2 := 499) (lo2 := 19979) jF_266_2 (by decide +kernel) rfl (show j_cnd 500 20000 499 19979 2 _ _ = true from rfl) ?_) ?_
              · refine Eq.trans (jr_s (pc2 := 1) (lv2 := [(0, .ref 117), (1, .int 0)]) (st2 := [.int 0]) jF_267_0 rfl rfl) ?_
                refine Eq.trans (jr_s (pc2 := 2) (lv2 := [(0, .ref 117), (1, .int 0)]) (st2 := [.long 0]) jF_267_1 rfl rfl) ?_
                refine Eq.trans (jr_s (pc2 := 3) (lv2 := [(0, .ref 117), (1, .int 0)]) (st2 := [.long 0, .long 0]) jF_267_2 rfl rfl) ?_
                refine Eq.trans (jr_s (pc2 := 6) (lv2 := [(0, .ref 117), (1, .int 0)]) (st2 := [.long 17, .long 0, .long 0]) jF_267_3 rfl rfl) ?_
                refine Eq.trans (jr_cS (as := [.long 0, .long 0, .long 17]) (rest := []) (v := some (.int 1)) (hp2 := jh2) (fr2 := 498) (lo2 := 19954) jF_267_6 rfl (show j_cnd 499 19979 498 19954 6 _ _ = true from rfl) ?_) ?_
                · refine Eq.trans (jr_s (pc2 := 1) (lv2 := [(0, .long 0), (2, .long 0), (4, .long 17)]) (st2 := [.long 0]) jF_232_0 rfl rfl) ?_
                  refine Eq.trans (jr_s (pc2 := 2) (lv2 := [(0, .long 0), (2, .long 0), (4, .long 17)]) (st2 := [.long 0, .long 0]) jF_232_1 rfl rfl) ?_
                  refine Eq.trans (jr_s (pc2 := 3) (lv2 := [(0, .long 0), (2, .long 0), (4, .long 17)]) (st2 := [.int 0]) jF_232_2 rfl rfl) ?_
                  refine Eq.trans (jr_if0 jF_232_3 (by decide +kernel)) ?_
                  refine Eq.trans (jr_s (pc2 := 7) (lv2 := [(0, .long 0), (2, .long 0), (4, .long 17)]) (st2 := [.long 0]) jF_232_6 rfl rfl) ?_
                  refine Eq.trans (jr_s (pc2 := 9) (lv2 := [(0, .long 0), (2, .long 0), (4, .long 17)]) (st2 := [.long 17, .long 0]) jF_232_7 rfl rfl) ?_
                  refine Eq.trans (jr_s (pc2 := 10) (lv2 := [(0, .long 0), (2, .long 0), (4, .long 17)]) (st2 := [.int (-1)]) jF_232_9 rfl rfl) ?_
                  refine Eq.trans (jr_if0 jF_232_10 (by decide +kernel)) ?_
                  refine Eq.trans (jr_s (pc2 := 14) (lv2 := [(0, .long 0), (2, .long 0), (4, .long 17)]) (st2 := [.int 1]) jF_232_13 rfl rfl) ?_
                  refine Eq.trans (jr_s (pc2 := 18) (lv2 := [(0, .long 0), (2, .long 0), (4, .long 17)]) (st2 := [.int 1]) jF_232_14 rfl rfl) ?_
                  exact jr_ri jF_232_18 rfl
                refine Eq.trans (jr_if0 jF_267_9 (by decide +kernel)) ?_
                refine Eq.trans (jr_s (pc2 := 13) (lv2 := [(0, .ref 117), (1, .int 0)]) (st2 := [.ref 117]) jF_267_12 rfl rfl) ?_
                refine Eq.trans (jr_gf (v := .ref 138) jF_267_13 (by decide +kernel)) ?_
                refine Eq.trans (jr_s (pc2 := 18) (lv2 := [(0, .ref 117), (1, .int 0)]) (st2 := [.int 18, .ref 138]) jF_267_16 rfl rfl) ?_
                refine Eq.trans (jr_s (pc2 := 19) (lv2 := [(0, .ref 117), (1, .int 0)]) (st2 := [.int 0, .int 18, .ref 138]) jF_267_18 rfl rfl) ?_
                refine Eq.trans (jr_s (pc2 := 20) (lv2 := [(0, .ref 117), (1, .int 0)]) (st2 := [.int 18, .ref 138]) jF_267_19 rfl rfl) ?_
                refine Eq.trans (jr_ldl (v := .long 0) jF_267_20 (by decide +kernel)) ?_
                exact jr_rl jF_267_21
              refine Eq.trans (jr_s (pc2 := 6) (lv2 := [(3, .long 0), (0, .ref 117), (1, .int 0), (2, .int a2)]) (st2 := []) jF_266_5 rfl rfl) ?_
              refine Eq.trans (jr_s (pc2 := 7) (lv2 := [(3, .long 0), (0, .ref 117), (1, .int 0), (2, .int a2)]) (st2 := [.long 0]) jF_266_6 rfl rfl) ?_
              refine Eq.trans (jr_s (pc2 := 8) (lv2 := [(3, .long 0), (0, .ref 117), (1, .int 0), (2, .int a2)]) (st2 := [.long 0, .long 0]) jF_266_7 rfl rfl) ?_
              refine Eq.trans (jr_s (pc2 := 9) (lv2 := [(3, .long 0), (0, .ref 117), (1, .int 0), (2, .int a2)]) (st2 := [.int 0]) jF_266_8 rfl rfl) ?_
              refine Eq.trans (jr_if1 jF_266_9 (by decide +kernel)) ?_
              refine Eq.trans (jr_s (pc2 := 25) (lv2 := [(3, .long 0), (0, .ref 117), (1, .int 0), (2, .int a2)]) (st2 := [.int (-1)]) jF_266_24 rfl rfl) ?_
              exact jr_ri jF_266_25 rfl
          · rcases j_ilt a1.toInt 2 with h_a1_2 | h_a1_2
            · obtain rfl : a1 = 1 := Int32.toInt_inj.mp (by rw [show (1 : Int32).toInt = 1 from by decide]; omega)
              refine ⟨60000, 60000, (-1), jh2, jh2, ?_, ?_, by decide +kernel⟩
              · refine Eq.trans (jr_s (pc2 := 1) (lv2 := [(0, .ref 9), (1, .int 1), (2, .int a2)]) (st2 := [.ref 9]) jF_92_0 rfl rfl) ?_
                refine Eq.trans (jr_gf (v := .ref 20) jF_92_1 (by decide +kernel)) ?_
                refine Eq.trans (jr_s (pc2 := 5) (lv2 := [(0, .ref 9), (1, .int 1), (2, .int a2)]) (st2 := [.int 1, .ref 20]) jF_92_4 rfl rfl) ?_
                refine Eq.trans (jr_s (pc2 := 6) (lv2 := [(0, .ref 9), (1, .int 1), (2, .int a2)]) (st2 := [.int a2, .int 1, .ref 20]) jF_92_5 rfl rfl) ?_
                refine Eq.trans (jr_cV (a := 20) (as := [.int 1, .int a2]) (rest := []) (v := some (.int (-1))) (hp2 := jh2) (fr2 := 499) (lo2 := 19978) jF_92_6 (by decide +kernel) rfl (show j_cnd 500 20000 499 19978 3 _ _ = true from rfl) ?_) ?_
                · refine Eq.trans (jr_s (pc2 := 1) (lv2 := [(0, .ref 20), (1, .int 1), (2, .int a2)]) (st2 := [.int 1]) jF_93_0 rfl rfl) ?_
                  refine Eq.trans (jr_if0 jF_93_1 (by decide +kernel)) ?_
                  refine Eq.trans (jr_s (pc2 := 5) (lv2 := [(0, .ref 20), (1, .int 1), (2, .int a2)]) (st2 := [.int 1]) jF_93_4 rfl rfl) ?_
                  refine Eq.trans (jr_s (pc2 := 6) (lv2 := [(0, .ref 20), (1, .int 1), (2, .int a2)]) (st2 := [.ref 20, .int 1]) jF_93_5 rfl rfl) ?_
                  refine Eq.trans (jr_gf (v := .ref 21) jF_93_6 (by decide +kernel)) ?_
                  refine Eq.trans (jr_al (v := 25) jF_93_9 (by decide +kernel)) ?_
                  refine Eq.trans (jr_ic0 jF_93_10 (by decide +kernel)) ?_
                  refine Eq.trans (jr_s (pc2 := 14) (lv2 := [(0, .ref 20), (1, .int 1), (2, .int a2)]) (st2 := [.int a2]) jF_93_13 rfl rfl) ?_
                  refine Eq.trans (jr_if1 jF_93_14 (jk_lt_lt (show (a2 : Int32).toInt < (0 : Int32).toInt by rw [show (0 : Int32).toInt = 0 from by decide]; omega))) ?_
                  refine Eq.trans (jr_s (pc2 := 33) (lv2 := [(0, .ref 20), (1, .int 1), (2, .int a2)]) (st2 := [.int (-1)]) jF_93_32 rfl rfl) ?_
                  exact jr_ri jF_93_33 rfl
                exact jr_ri jF_92_9 rfl
              · refine Eq.trans (jr_s (pc2 := 1) (lv2 := [(0, .ref 117), (1, .int 1), (2, .int a2)]) (st2 := [.ref 117]) jF_266_0 rfl rfl) ?_
                refine Eq.trans (jr_s (pc2 := 2) (lv2 := [(0, .ref 117), (1, .int 1), (2, .int a2)]) (st2 := [.int 1, .ref 117]) jF_266_1 rfl rfl) ?_
                refine Eq.trans (jr_cV (a := 117) (as := [.int 1]) (rest := []) (v := some (.long 0)) (hp2 := jh2) (fr2 := 499) (lo2 := 19979) jF_266_2 (by decide +kernel) rfl (show j_cnd 500 20000 499 19979 2 _ _ = true from rfl) ?_) ?_
                · refine Eq.trans (jr_s (pc2 := 1) (lv2 := [(0, .ref 117), (1, .int 1)]) (st2 := [.int 1]) jF_267_0 rfl rfl) ?_
                  refine Eq.trans (jr_s (pc2 := 2) (lv2 := [(0, .ref 117), (1, .int 1)]) (st2 := [.long 1]) jF_267_1 rfl rfl) ?_
                  refine Eq.trans (jr_s (pc2 := 3) (lv2 := [(0, .ref 117), (1, .int 1)]) (st2 := [.long 0, .long 1]) jF_267_2 rfl rfl) ?_
                  refine Eq.trans (jr_s (pc2 := 6) (lv2 := [(0, .ref 117), (1, .int 1)]) (st2 := [.long 17, .long 0, .long 1]) jF_267_3 rfl rfl) ?_
                  refine Eq.trans (jr_cS (as := [.long 1, .long 0, .long 17]) (rest := []) (v := some (.int 1)) (hp2 := jh2) (fr2 := 498) (lo2 := 19954) jF_267_6 rfl (show j_cnd 499 19979 498 19954 6 _ _ = true from rfl) ?_) ?_
                  · refine Eq.trans (jr_s (pc2 := 1) (lv2 := [(0, .long 1), (2, .long 0), (4, .long 17)]) (st2 := [.long 1]) jF_232_0 rfl rfl) ?_
                    refine Eq.trans (jr_s (pc2 := 2) (lv2 := [(0, .long 1), (2, .long 0), (4, .long 17)]) (st2 := [.long 0, .long 1]) jF_232_1 rfl rfl) ?_
                    refine Eq.trans (jr_s (pc2 := 3) (lv2 := [(0, .long 1), (2, .long 0), (4, .long 17)]) (st2 := [.int 1]) jF_232_2 rfl rfl) ?_
                    refine Eq.trans (jr_if0 jF_232_3 (by decide +kernel)) ?_
                    refine Eq.trans (jr_s (pc2 := 7) (lv2 := [(0, .long 1), (2, .long 0), (4, .long 17)]) (st2 := [.long 1]) jF_232_6 rfl rfl) ?_
                    refine Eq.trans (jr_s (pc2 := 9) (lv2 := [(0, .long 1), (2, .long 0), (4, .long 17)]) (st2 := [.long 17, .long 1]) jF_232_7 rfl rfl) ?_
                    refine Eq.trans (jr_s (pc2 := 10) (lv2 := [(0, .long 1), (2, .long 0), (4, .long 17)]) (st2 := [.int (-1)]) jF_232_9 rfl rfl) ?_
                    refine Eq.trans (jr_if0 jF_232_10 (by decide +kernel)) ?_
                    refine Eq.trans (jr_s (pc2 := 14) (lv2 := [(0, .long 1), (2, .long 0), (4, .long 17)]) (st2 := [.int 1]) jF_232_13 rfl rfl) ?_
                    refine Eq.trans (jr_s (pc2 := 18) (lv2 := [(0, .long 1), (2, .long 0), (4, .long 17)]) (st2 := [.int 1]) jF_232_14 rfl rfl) ?_
                    exact jr_ri jF_232_18 rfl
                  refine Eq.trans (jr_if0 jF_267_9 (by decide +kernel)) ?_
                  refine Eq.trans (jr_s (pc2 := 13) (lv2 := [(0, .ref 117), (1, .int 1)]) (st2 := [.ref 117]) jF_267_12 rfl rfl) ?_
                  refine Eq.trans (jr_gf (v := .ref 138) jF_267_13 (by decide +kernel)) ?_
                  refine Eq.trans (jr_s (pc2 := 18) (lv2 := [(0, .ref 117), (1, .int 1)]) (st2 := [.int 18, .ref 138]) jF_267_16 rfl rfl) ?_
                  refine Eq.trans (jr_s (pc2 := 19) (lv2 := [(0, .ref 117), (1, .int 1)]) (st2 := [.int 1, .int 18, .ref 138]) jF_267_18 rfl rfl) ?_
                  refine Eq.trans (jr_s (pc2 := 20) (lv2 := [(0, .ref 117), (1, .int 1)]) (st2 := [.int 19, .ref 138]) jF_267_19 rfl rfl) ?_
                  refine Eq.trans (jr_ldl (v := .long 0) jF_267_20 (by decide +kernel)) ?_
                  exact jr_rl jF_267_21
                refine Eq.trans (jr_s (pc2 := 6) (lv2 := [(3, .long 0), (0, .ref 117), (1, .int 1), (2, .int a2)]) (st2 := []) jF_266_5 rfl rfl) ?_
                refine Eq.trans (jr_s (pc2 := 7) (lv2 := [(3, .long 0), (0, .ref 117), (1, .int 1), (2, .int a2)]) (st2 := [.long 0]) jF_266_6 rfl rfl) ?_
                refine Eq.trans (jr_s (pc2 := 8) (lv2 := [(3, .long 0), (0, .ref 117), (1, .int 1), (2, .int a2)]) (st2 := [.long 0, .long 0]) jF_266_7 rfl rfl) ?_
                refine Eq.trans (jr_s (pc2 := 9) (lv2 := [(3, .long 0), (0, .ref 117), (1, .int 1), (2, .int a2)]) (st2 := [.int 0]) jF_266_8 rfl rfl) ?_
                refine Eq.trans (jr_if1 jF_266_9 (by decide +kernel)) ?_
                refine Eq.trans (jr_s (pc2 := 25) (lv2 := [(3, .long 0), (0, .ref 117), (1, .int 1), (2, .int a2)]) (st2 := [.int (-1)]) jF_266_24 rfl rfl) ?_
                exact jr_ri jF_266_25 rfl
            · rcases j_ilt a1.toInt 3 with h_a1_3 | h_a1_3
              · obtain rfl : a1 = 2 := Int32.toInt_inj.mp (by rw [show (2 : Int32).toInt = 2 from by decide]; omega)
                refine ⟨60000, 60000, (-1), jh2, jh2, ?_, ?_, by decide +kernel⟩
                · refine Eq.trans (jr_s (pc2 := 1) (lv2 := [(0, .ref 9), (1, .int 2), (2, .int a2)]) (st2 := [.ref 9]) jF_92_0 rfl rfl) ?_
                  refine Eq.trans (jr_gf (v := .ref 20) jF_92_1 (by decide +kernel)) ?_
                  refine Eq.trans (jr_s (pc2 := 5) (lv2 := [(0, .ref 9), (1, .int 2), (2, .int a2)]) (st2 := [.int 2, .ref 20]) jF_92_4 rfl rfl) ?_
                  refine Eq.trans (jr_s (pc2 := 6) (lv2 := [(0, .ref 9), (1, .int 2), (2, .int a2)]) (st2 := [.int a2, .int 2, .ref 20]) jF_92_5 rfl rfl) ?_
                  refine Eq.trans (jr_cV (a := 20) (as := [.int 2, .int a2]) (rest := []) (v := some (.int (-1))) (hp2 := jh2) (fr2 := 499) (lo2 := 19978) jF_92_6 (by decide +kernel) rfl (show j_cnd 500 20000 499 19978 3 _ _ = true from rfl) ?_) ?_
                  · refine Eq.trans (jr_s (pc2 := 1) (lv2 := [(0, .ref 20), (1, .int 2), (2, .int a2)]) (st2 := [.int 2]) jF_93_0 rfl rfl) ?_
                    refine Eq.trans (jr_if0 jF_93_1 (by decide +kernel)) ?_
                    refine Eq.trans (jr_s (pc2 := 5) (lv2 := [(0, .ref 20), (1, .int 2), (2, .int a2)]) (st2 := [.int 2]) jF_93_4 rfl rfl) ?_
                    refine Eq.trans (jr_s (pc2 := 6) (lv2 := [(0, .ref 20), (1, .int 2), (2, .int a2)]) (st2 := [.ref 20, .int 2]) jF_93_5 rfl rfl) ?_
                    refine Eq.trans (jr_gf (v := .ref 21) jF_93_6 (by decide +kernel)) ?_
                    refine Eq.trans (jr_al (v := 25) jF_93_9 (by decide +kernel)) ?_
                    refine Eq.trans (jr_ic0 jF_93_10 (by decide +kernel)) ?_
                    refine Eq.trans (jr_s (pc2 := 14) (lv2 := [(0, .ref 20), (1, .int 2), (2, .int a2)]) (st2 := [.int a2]) jF_93_13 rfl rfl) ?_
                    refine Eq.trans (jr_if1 jF_93_14 (jk_lt_lt (show (a2 : Int32).toInt < (0 : Int32).toInt by rw [show (0 : Int32).toInt = 0 from by decide]; omega))) ?_
                    refine Eq.trans (jr_s (pc2 := 33) (lv2 := [(0, .ref 20), (1, .int 2), (2, .int a2)]) (st2 := [.int (-1)]) jF_93_32 rfl rfl) ?_
                    exact jr_ri jF_93_33 rfl
                  exact jr_ri jF_92_9 rfl
                · refine Eq.trans (jr_s (pc2 := 1) (lv2 := [(0, .ref 117), (1, .int 2), (2, .int a2)]) (st2 := [.ref 117]) jF_266_0 rfl rfl) ?_
                  refine Eq.trans (jr_s (pc2 := 2) (lv2 := [(0, .ref 117), (1, .int 2), (2, .int a2)]) (st2 := [.int 2, .ref 117]) jF_266_1 rfl rfl) ?_
                  refine Eq.trans (jr_cV (a := 117) (as := [.int 2]) (rest := []) (v := some (.long 0)) (hp2 := jh2) (fr2 := 499) (lo2 := 19979) jF_266_2 (by decide +kernel) rfl (show j_cnd 500 20000 499 19979 2 _ _ = true from rfl) ?_) ?_
                  · refine Eq.trans (jr_s (pc2 := 1) (lv2 := [(0, .ref 117), (1, .int 2)]) (st2 := [.int 2]) jF_267_0 rfl rfl) ?_
                    refine Eq.trans (jr_s (pc2 := 2) (lv2 := [(0, .ref 117), (1, .int 2)]) (st2 := [.long 2]) jF_267_1 rfl rfl) ?_
                    refine Eq.trans (jr_s (pc2 := 3) (lv2 := [(0, .ref 117), (1, .int 2)]) (st2 := [.long 0, .long 2]) jF_267_2 rfl rfl) ?_
                    refine Eq.trans (jr_s (pc2 := 6) (lv2 := [(0, .ref 117), (1, .int 2)]) (st2 := [.long 17, .long 0, .long 2]) jF_267_3 rfl rfl) ?_
                    refine Eq.trans (jr_cS (as := [.long 2, .long 0, .long 17]) (rest := []) (v := some (.int 1)) (hp2 := jh2) (fr2 := 498) (lo2 := 19954) jF_267_6 rfl (show j_cnd 499 19979 498 19954 6 _ _ = true from rfl) ?_) ?_
                    · refine Eq.trans (jr_s (pc2 := 1) (lv2 := [(0, .long 2), (2, .long 0), (4, .long 17)]) (st2 := [.long 2]) jF_232_0 rfl rfl) ?_
                      refine Eq.trans (jr_s (pc2 := 2) (lv2 := [(0, .long 2), (2, .long 0), (4, .long 17)]) (st2 := [.long 0, .long 2]) jF_232_1 rfl rfl) ?_
                      refine Eq.trans (jr_s (pc2 := 3) (lv2 := [(0, .long 2), (2, .long 0), (4, .long 17)]) (st2 := [.int 1]) jF_232_2 rfl rfl) ?_
                      refine Eq.trans (jr_if0 jF_232_3 (by decide +kernel)) ?_
                      refine Eq.trans (jr_s (pc2 := 7) (lv2 := [(0, .long 2), (2, .long 0), (4, .long 17)]) (st2 := [.long 2]) jF_232_6 rfl rfl) ?_
                      refine Eq.trans (jr_s (pc2 := 9) (lv2 := [(0, .long 2), (2, .long 0), (4, .long 17)]) (st2 := [.long 17, .long 2]) jF_232_7 rfl rfl) ?_
                      refine Eq.trans (jr_s (pc2 := 10) (lv2 := [(0, .long 2), (2, .long 0), (4, .long 17)]) (st2 := [.int (-1)]) jF_232_9 rfl rfl) ?_
                      refine Eq.trans (jr_if0 jF_232_10 (by decide +kernel)) ?_
                      refine Eq.trans (jr_s (pc2 := 14) (lv2 := [(0, .long 2), (2, .long 0), (4, .long 17)]) (st2 := [.int 1]) jF_232_13 rfl rfl) ?_
                      refine Eq.trans (jr_s (pc2 := 18) (lv2 := [(0, .long 2), (2, .long 0), (4, .long 17)]) (st2 := [.int 1]) jF_232_14 rfl rfl) ?_
                      exact jr_ri jF_232_18 rfl
                    refine Eq.trans (jr_if0 jF_267_9 (by decide +kernel)) ?_
                    refine Eq.trans (jr_s (pc2 := 13) (lv2 := [(0, .ref 117), (1, .int 2)]) (st2 := [.ref 117]) jF_267_12 rfl rfl) ?_
                    refine Eq.trans (jr_gf (v := .ref 138) jF_267_13 (by decide +kernel)) ?_
                    refine Eq.trans (jr_s (pc2 := 18) (lv2 := [(0, .ref 117), (1, .int 2)]) (st2 := [.int 18, .ref 138]) jF_267_16 rfl rfl) ?_
                    refine Eq.trans (jr_s (pc2 := 19) (lv2 := [(0, .ref 117), (1, .int 2)]) (st2 := [.int 2, .int 18, .ref 138]) jF_267_18 rfl rfl) ?_
                    refine Eq.trans (jr_s (pc2 := 20) (lv2 := [(0, .ref 117), (1, .int 2)]) (st2 := [.int 20, .ref 138]) jF_267_19 rfl rfl) ?_
                    refine Eq.trans (jr_ldl (v := .long 0) jF_267_20 (by decide +kernel)) ?_
                    exact jr_rl jF_267_21
                  refine Eq.trans (jr_s (pc2 := 6) (lv2 := [(3, .long 0), (0, .ref 117), (1, .int 2), (2, .int a2)]) (st2 := []) jF_266_5 rfl rfl) ?_
                  refine Eq.trans (jr_s (pc2 := 7) (lv2 := [(3, .long 0), (0, .ref 117), (1, .int 2), (2, .int a2)]) (st2 := [.long 0]) jF_266_6 rfl rfl) ?_
                  refine Eq.trans (jr_s (pc2 := 8) (lv2 := [(3, .long 0), (0, .ref 117), (1, .int 2), (2, .int a2)]) (st2 := [.long 0, .long 0]) jF_266_7 rfl rfl) ?_
                  refine Eq.trans (jr_s (pc2 := 9) (lv2 := [(3, .long 0), (0, .ref 117), (1, .int 2), (2, .int a2)]) (st2 := [.int 0]) jF_266_8 rfl rfl) ?_
                  refine Eq.trans (jr_if1 jF_266_9 (by decide +kernel)) ?_
                  refine Eq.trans (jr_s (pc2 := 25) (lv2 := [(3, .long 0), (0, .ref 117), (1, .int 2), (2, .int a2)]) (st2 := [.int (-1)]) jF_266_24 rfl rfl) ?_
                  exact jr_ri jF_266_25 rfl
              · rcases j_ilt a1.toInt 4 with h_a1_4 | h_a1_4
                · obtain rfl : a1 = 3 := Int32.toInt_inj.mp (by rw [show (3 : Int32).toInt = 3 from by decide]; omega)
                  refine ⟨60000, 60000, (-1), jh2, jh2, ?_, ?_, by decide +kernel⟩
                  · refine Eq.trans (jr_s (pc2 := 1) (lv2 := [(0, .ref 9), (1, .int 3), (2, .int a2)]) (st2 := [.ref 9]) jF_92_0 rfl rfl) ?_
                    refine Eq.trans (jr_gf (v := .ref 20) jF_92_1 (by decide +kernel)) ?_
                    refine Eq.trans (jr_s (pc2 := 5) (lv2 := [(0, .ref 9), (1, .int 3), (2, .int a2)]) (st2 := [.int 3, .ref 20]) jF_92_4 rfl rfl) ?_
                    refine Eq.trans (jr_s (pc2 := 6) (lv2 := [(0, .ref 9), (1, .int 3), (2, .int a2)]) (st2 := [.int a2, .int 3, .ref 20]) jF_92_5 rfl rfl) ?_
                    refine Eq.trans (jr_cV (a := 20) (as := [.int 3, .int a2]) (rest := []) (v := some (.int (-1))) (hp2 := jh2) (fr2 := 499) (lo2 := 19978) jF_92_6 (by decide +kernel) rfl (show j_cnd 500 20000 499 19978 3 _ _ = true from rfl) ?_) ?_
                    · refine Eq.trans (jr_s (pc2 := 1) (lv2 := [(0, .ref 20), (1, .int 3), (2, .int a2)]) (st2 := [.int 3]) jF_93_0 rfl rfl) ?_
                      refine Eq.trans (jr_if0 jF_93_1 (by decide +kernel)) ?_
                      refine Eq.trans (jr_s (pc2 := 5) (lv2 := [(0, .ref 20), (1, .int 3), (2, .int a2)]) (st2 := [.int 3]) jF_93_4 rfl rfl) ?_
                      refine Eq.trans (jr_s (pc2 := 6) (lv2 := [(0, .ref 20), (1, .int 3), (2, .int a2)]) (st2 := [.ref 20, .int 3]) jF_93_5 rfl rfl) ?_
                      refine Eq.trans (jr_gf (v := .ref 21) jF_93_6 (by decide +kernel)) ?_
                      refine Eq.trans (jr_al (v := 25) jF_93_9 (by decide +kernel)) ?_
                      refine Eq.trans (jr_ic0 jF_93_10 (by decide +kernel)) ?_
                      refine Eq.trans (jr_s (pc2 := 14) (lv2 := [(0, .ref 20), (1, .int 3), (2, .int a2)]) (st2 := [.int a2]) jF_93_13 rfl rfl) ?_
                      refine Eq.trans (jr_if1 jF_93_14 (jk_lt_lt (show (a2 : Int32).toInt < (0 : Int32).toInt by rw [show (0 : Int32).toInt = 0 from by decide]; omega))) ?_
                      refine Eq.trans (jr_s (pc2 := 33) (lv2 := [(0, .ref 20), (1, .int 3), (2, .int a2)]) (st2 := [.int (-1)]) jF_93_32 rfl rfl) ?_
                      exact jr_ri jF_93_33 rfl
                    exact jr_ri jF_92_9 rfl
                  · refine Eq.trans (jr_s (pc2 := 1) (lv2 := [(0, .ref 117), (1, .int 3), (2, .int a2)]) (st2 := [.ref 117]) jF_266_0 rfl rfl) ?_
                    refine Eq.trans (jr_s (pc2 := 2) (lv2 := [(0, .ref 117), (1, .int 3), (2, .int a2)]) (st2 := [.int 3, .ref 117]) jF_266_1 rfl rfl) ?_
                    refine Eq.trans (jr_cV (a := 117) (as := [.int 3]) (rest := []) (v := some (.long 0)) (hp2 := jh2) (fr2 := 499) (lo2 := 19979) jF_266_2 (by decide +kernel) rfl (show j_cnd 500 20000 499 19979 2 _ _ = true from rfl) ?_) ?_
                    · refine Eq.trans (jr_s (pc2 := 1) (lv2 := [(0, .ref 117), (1, .int 3)]) (st2 := [.int 3]) jF_267_0 rfl rfl) ?_
                      refine Eq.trans (jr_s (pc2 := 2) (lv2 := [(0, .ref 117), (1, .int 3)]) (st2 := [.long 3]) jF_267_1 rfl rfl) ?_
                      refine Eq.trans (jr_s (pc2 := 3) (lv2 := [(0, .ref 117), (1, .int 3)]) (st2 := [.long 0, .long 3]) jF_267_2 rfl rfl) ?_
                      refine Eq.trans (jr_s (pc2 := 6) (lv2 := [(0, .ref 117), (1, .int 3)]) (st2 := [.long 17, .long 0, .long 3]) jF_267_3 rfl rfl) ?_
                      refine Eq.trans (jr_cS (as := [.long 3, .long 0, .long 17]) (rest := []) (v := some (.int 1)) (hp2 := jh2) (fr2 := 498) (lo2 := 19954) jF_267_6 rfl (show j_cnd 499 19979 498 19954 6 _ _ = true from rfl) ?_) ?_
                      · refine Eq.trans (jr_s (pc2 := 1) (lv2 := [(0, .long 3), (2, .long 0), (4, .long 17)]) (st2 := [.long 3]) jF_232_0 rfl rfl) ?_
                        refine Eq.trans (jr_s (pc2 := 2) (lv2 := [(0, .long 3), (2, .long 0), (4, .long 17)]) (st2 := [.long 0, .long 3]) jF_232_1 rfl rfl) ?_
                        refine Eq.trans (jr_s (pc2 := 3) (lv2 := [(0, .long 3), (2, .long 0), (4, .long 17)]) (st2 := [.int 1]) jF_232_2 rfl rfl) ?_
                        refine Eq.trans (jr_if0 jF_232_3 (by decide +kernel)) ?_
                        refine Eq.trans (jr_s (pc2 := 7) (lv2 := [(0, .long 3), (2, .long 0), (4, .long 17)]) (st2 := [.long 3]) jF_232_6 rfl rfl) ?_
                        refine Eq.trans (jr_s (pc2 := 9) (lv2 := [(0, .long 3), (2, .long 0), (4, .long 17)]) (st2 := [.long 17, .long 3]) jF_232_7 rfl rfl) ?_
                        refine Eq.trans (jr_s (pc2 := 10) (lv2 := [(0, .long 3), (2, .long 0), (4, .long 17)]) (st2 := [.int (-1)]) jF_232_9 rfl rfl) ?_
                        refine Eq.trans (jr_if0 jF_232_10 (by decide +kernel)) ?_
                        refine Eq.trans (jr_s (pc2 := 14) (lv2 := [(0, .long 3), (2, .long 0), (4, .long 17)]) (st2 := [.int 1]) jF_232_13 rfl rfl) ?_
                        refine Eq.trans (jr_s (pc2 := 18) (lv2 := [(0, .long 3), (2, .long 0), (4, .long 17)]) (st2 := [.int 1]) jF_232_14 rfl rfl) ?_
                        exact jr_ri jF_232_18 rfl
                      refine Eq.trans (jr_if0 jF_267_9 (by decide +kernel)) ?_
                      refine Eq.trans (jr_s (pc2 := 13) (lv2 := [(0, .ref 117), (1, .int 3)]) (st2 := [.ref 117]) jF_267_12 rfl rfl) ?_
                      refine Eq.trans (jr_gf (v := .ref 138) jF_267_13 (by decide +kernel)) ?_
                      refine Eq.trans (jr_s (pc2 := 18) (lv2 := [(0, .ref 117), (1, .int 3)]) (st2 := [.int 18, .ref 138]) jF_267_16 rfl rfl) ?_
                      refine Eq.trans (jr_s (pc2 := 19) (lv2 := [(0, .ref 117), (1, .int 3)]) (st2 := [.int 3, .int 18, .ref 138]) jF_267_18 rfl rfl) ?_
                      refine Eq.trans (jr_s (pc2 := 20) (lv2 := [(0, .ref 117), (1, .int 3)]) (st2 := [.int 21, .ref 138]) jF_267_19 rfl rfl) ?_
                      refine Eq.trans (jr_ldl (v := .long 0) jF_267_20 (by decide +kernel)) ?_
                      exact jr_rl jF_267_21
                    refine Eq.trans (jr_s (pc2 := 6) (lv2 := [(3, .long 0), (0, .ref 117), (1, .int 3), (2, .int a2)]) (st2 := []) jF_266_5 rfl rfl) ?_
                    refine Eq.trans (jr_s (pc2 := 7) (lv2 := [(3, .long 0), (0, .ref 117), (1, .int 3), (2, .int a2)]) (st2 := [.long 0]) jF_266_6 rfl rfl) ?_
                    refine Eq.trans (jr_s (pc2 := 8) (lv2 := [(3, .long 0), (0, .ref 117), (1, .int 3), (2, .int a2)]) (st2 := [.long 0, .long 0]) jF_266_7 rfl rfl) ?_
                    refine Eq.trans (jr_s (pc2 := 9) (lv2 := [(3, .long 0), (0, .ref 117), (1, .int 3), (2, .int a2)]) (st2 := [.int 0]) jF_266_8 rfl rfl) ?_
                    refine Eq.trans (jr_if1 jF_266_9 (by decide +kernel)) ?_
                    refine Eq.trans (jr_s (pc2 := 25) (lv2 := [(3, .long 0), (0, .ref 117), (1, .int 3), (2, .int a2)]) (st2 := [.int (-1)]) jF_266_24 rfl rfl) ?_
                    exact jr_ri jF_266_25 rfl
                · rcases j_ilt a1.toInt 5 with h_a1_5 | h_a1_5
                  · obtain rfl : a1 = 4 := Int32.toInt_inj.mp (by rw [show (4 : Int32).toInt = 4 from by decide]; omega)
                    refine ⟨60000, 60000, (-1), jh2, jh2, ?_, ?_, by decide +kernel⟩
                    · refine Eq.trans (jr_s (pc2 := 1) (lv2 := [(0, .ref 9), (1, .int 4), (2, .int a2)]) (st2 := [.ref 9]) jF_92_0 rfl rfl) ?_
                      refine Eq.trans (jr_gf (v := .ref 20) jF_92_1 (by decide +kernel)) ?_
                      refine Eq.trans (jr_s (pc2 := 5) (lv2 := [(0, .ref 9), (1, .int 4), (2, .int a2)]) (st2 := [.int 4, .ref 20]) jF_92_4 rfl rfl) ?_
                      refine Eq.trans (jr_s (pc2 := 6) (lv2 := [(0, .ref 9), (1, .int 4), (2, .int a2)]) (st2 := [.int a2, .int 4, .ref 20]) jF_92_5 rfl rfl) ?_
                      refine Eq.trans (jr_cV (a := 20) (as := [.int 4, .int a2]) (rest := []) (v := some (.int (-1))) (hp2 := jh2) (fr2 := 499) (lo2 := 19978) jF_92_6 (by decide +kernel) rfl (show j_cnd 500 20000 499 19978 3 _ _ = true from rfl) ?_) ?_
                      · refine Eq.trans (jr_s (pc2 := 1) (lv2 := [(0, .ref 20), (1, .int 4), (2, .int a2)]) (st2 := [.int 4]) jF_93_0 rfl rfl) ?_
                        refine Eq.trans (jr_if0 jF_93_1 (by decide +kernel)) ?_
                        refine Eq.trans (jr_s (pc2 := 5) (lv2 := [(0, .ref 20), (1, .int 4), (2, .int a2)]) (st2 := [.int 4]) jF_93_4 rfl rfl) ?_
                        refine Eq.trans (jr_s (pc2 := 6) (lv2 := [(0, .ref 20), (1, .int 4), (2, .int a2)]) (st2 := [.ref 20, .int 4]) jF_93_5 rfl rfl) ?_
                        refine Eq.trans (jr_gf (v := .ref 21) jF_93_6 (by decide +kernel)) ?_
                        refine Eq.trans (jr_al (v := 25) jF_93_9 (by decide +kernel)) ?_
                        refine Eq.trans (jr_ic0 jF_93_10 (by decide +kernel)) ?_
                        refine Eq.trans (jr_s (pc2 := 14) (lv2 := [(0, .ref 20), (1, .int 4), (2, .int a2)]) (st2 := [.int a2]) jF_93_13 rfl rfl) ?_
                        refine Eq.trans (jr_if1 jF_93_14 (jk_lt_lt (show (a2 : Int32).toInt < (0 : Int32).toInt by rw [show (0 : Int32).toInt = 0 from by decide]; omega))) ?_
                        refine Eq.trans (jr_s (pc2 := 33) (lv2 := [(0, .ref 20), (1, .int 4), (2, .int a2)]) (st2 := [.int (-1)]) jF_93_32 rfl rfl) ?_
                        exact jr_ri jF_93_33 rfl
                      exact jr_ri jF_92_9 rfl
                    · refine Eq.trans (jr_s (pc2 := 1) (lv2 := [(0, .ref 117), (1, .int 4), (2, .int a2)]) (st2 := [.ref 117]) jF_266_0 rfl rfl) ?_
                      refine Eq.trans (jr_s (pc2 := 2) (lv2 := [(0, .ref 117), (1, .int 4), (2, .int a2)]) (st2 := [.int 4, .ref 117]) jF_266_1 rfl rfl) ?_
                      refine Eq.trans (jr_cV (a := 117) (as := [.int 4]) (rest := []) (v := some (.long 0)) (hp2 := jh2) (fr2 := 499) (lo2 := 19979) jF_266_2 (by decide +kernel) rfl (show j_cnd 500 20000 499 19979 2 _ _ = true from rfl) ?_) ?_
                      · refine Eq.trans (jr_s (pc2 := 1) (lv2 := [(0, .ref 117), (1, .int 4)]) (st2 := [.int 4]) jF_267_0 rfl rfl) ?_
                        refine Eq.trans (jr_s (pc2 := 2) (lv2 := [(0, .ref 117), (1, .int 4)]) (st2 := [.long 4]) jF_267_1 rfl rfl) ?_
                        refine Eq.trans (jr_s (pc2 := 3) (lv2 := [(0, .ref 117), (1, .int 4)]) (st2 := [.long 0, .long 4]) jF_267_2 rfl rfl) ?_
                        refine Eq.trans (jr_s (pc2 := 6) (lv2 := [(0, .ref 117), (1, .int 4)]) (st2 := [.long 17, .long 0, .long 4]) jF_267_3 rfl rfl) ?_
                        refine Eq.trans (jr_cS (as := [.long 4, .long 0, .long 17]) (rest := []) (v := some (.int 1)) (hp2 := jh2) (fr2 := 498) (lo2 := 19954) jF_267_6 rfl (show j_cnd 499 19979 498 19954 6 _ _ = true from rfl) ?_) ?_
                        · refine Eq.trans (jr_s (pc2 := 1) (lv2 := [(0, .long 4), (2, .long 0), (4, .long 17)]) (st2 := [.long 4]) jF_232_0 rfl rfl) ?_
                          refine Eq.trans (jr_s (pc2 := 2) (lv2 := [(0, .long 4), (2, .long 0), (4, .long 17)]) (st2 := [.long 0, .long 4]) jF_232_1 rfl rfl) ?_
                          refine Eq.trans (jr_s (pc2 := 3) (lv2 := [(0, .long 4), (2, .long 0), (4, .long 17)]) (st2 := [.int 1]) jF_232_2 rfl rfl) ?_
                          refine Eq.trans (jr_if0 jF_232_3 (by decide +kernel)) ?_
                          refine Eq.trans (jr_s (pc2 := 7) (lv2 := [(0, .long 4), (2, .long 0), (4, .long 17)]) (st2 := [.long 4]) jF_232_6 rfl rfl) ?_
                          refine Eq.trans (jr_s (pc2 := 9) (lv2 := [(0, .long 4), (2, .long 0), (4, .long 17)]) (st2 := [.long 17, .long 4]) jF_232_7 rfl rfl) ?_
                          refine Eq.trans (jr_s (pc2 := 10) (lv2 := [(0, .long 4), (2, .long 0), (4, .long 17)]) (st2 := [.int (-1)]) jF_232_9 rfl rfl) ?_
                          refine Eq.trans (jr_if0 jF_232_10 (by decide +kernel)) ?_
                          refine Eq.trans (jr_s (pc2 := 14) (lv2 := [(0, .long 4), (2, .long 0), (4, .long 17)]) (st2 := [.int 1]) jF_232_13 rfl rfl) ?_
                          refine Eq.trans (jr_s (pc2 := 18) (lv2 := [(0, .long 4), (2, .long 0), (4, .long 17)]) (st2 := [.int 1]) jF_232_14 rfl rfl) ?_
                          exact jr_ri jF_232_18 rfl
                        refine Eq.trans (jr_if0 jF_267_9 (by decide +kernel)) ?_
                        refine Eq.trans (jr_s (pc2 := 13) (lv2 := [(0, .ref 117), (1, .int 4)]) (st2 := [.ref 117]) jF_267_12 rfl rfl) ?_
                        refine Eq.trans (jr_gf (v := .ref 138) jF_267_13 (by decide +kernel)) ?_
                        refine Eq.trans (jr_s (pc2 := 18) (lv2 := [(0, .ref 117), (1, .int 4)]) (st2 := [.int 18, .ref 138]) jF_267_16 rfl rfl) ?_
                        refine Eq.trans (jr_s (pc2 := 19) (lv2 := [(0, .ref 117), (1, .int 4)]) (st2 := [.int 4, .int 18, .ref 138]) jF_267_18 rfl rfl) ?_
                        refine Eq.trans (jr_s (pc2 := 20) (lv2 := [(0, .ref 117), (1, .int 4)]) (st2 := [.int 22, .ref 138]) jF_267_19 rfl rfl) ?_
                        refine Eq.trans (jr_ldl (v := .long 0) jF_267_20 (by decide +kernel)) ?_
                        exact jr_rl jF_267_21
                      refine Eq.trans (jr_s (pc2 := 6) (lv2 := [(3, .long 0), (0, .ref 117), (1, .int 4), (2, .int a2)]) (st2 := []) jF_266_5 rfl rfl) ?_
                      refine Eq.trans (jr_s (pc2 := 7) (lv2 := [(3, .long 0), (0, .ref 117), (1, .int 4), (2, .int a2)]) (st2 := [.long 0]) jF_266_6 rfl rfl) ?_
                      refine Eq.trans (jr_s (pc2 := 8) (lv2 := [(3, .long 0), (0, .ref 117), (1, .int 4), (2, .int a2)]) (st2 := [.long 0, .long 0]) jF_266_7 rfl rfl) ?_
                      refine Eq.trans (jr_s (pc2 := 9) (lv2 := [(3, .long 0), (0, .ref 117), (1, .int 4), (2, .int a2)]) (st2 := [.int 0]) jF_266_8 rfl rfl) ?_
                      refine Eq.trans (jr_if1 jF_266_9 (by decide +kernel)) ?_
                      refine Eq.trans (jr_s (pc2 := 25) (lv2 := [(3, .long 0), (0, .ref 117), (1, .int 4), (2, .int a2)]) (st2 := [.int (-1)]) jF_266_24 rfl rfl) ?_
                      exact jr_ri jF_266_25 rfl
                  · rcases j_ilt a1.toInt 6 with h_a1_6 | h_a1_6
                    · obtain rfl : a1 = 5 := Int32.toInt_inj.mp (by rw [show (5 : Int32).toInt = 5 from by decide]; omega)
                      refine ⟨60000, 60000, (-1), jh2, jh2, ?_, ?_, by decide +kernel⟩
                      · refine Eq.trans (jr_s (pc2 := 1) (lv2 := [(0, .ref 9), (1, .int 5), (2, .int a2)]) (st2 := [.ref 9]) jF_92_0 rfl rfl) ?_
                        refine Eq.trans (jr_gf (v := .ref 20) jF_92_1 (by decide +kernel)) ?_
                        refine Eq.trans (jr_s (pc2 := 5) (lv2 := [(0, .ref 9), (1, .int 5), (2, .int a2)]) (st2 := [.int 5, .ref 20]) jF_92_4 rfl rfl) ?_
                        refine Eq.trans (jr_s (pc2 := 6) (lv2 := [(0, .ref 9), (1, .int 5), (2, .int a2)]) (st2 := [.int a2, .int 5, .ref 20]) jF_92_5 rfl rfl) ?_
                        refine Eq.trans (jr_cV (a := 20) (as := [.int 5, .int a2]) (rest := []) (v := some (.int (-1))) (hp2 := jh2) (fr2 := 499) (lo2 := 19978) jF_92_6 (by decide +kernel) rfl (show j_cnd 500 20000 499 19978 3 _ _ = true from rfl) ?_) ?_
                        · refine Eq.trans (jr_s (pc2 := 1) (lv2 := [(0, .ref 20), (1, .int 5), (2, .int a2)]) (st2 := [.int 5]) jF_93_0 rfl rfl) ?_
                          refine Eq.trans (jr_if0 jF_93_1 (by decide +kernel)) ?_
                          refine Eq.trans (jr_s (pc2 := 5) (lv2 := [(0, .ref 20), (1, .int 5), (2, .int a2)]) (st2 := [.int 5]) jF_93_4 rfl rfl) ?_
                          refine Eq.trans (jr_s (pc2 := 6) (lv2 := [(0, .ref 20), (1, .int 5), (2, .int a2)]) (st2 := [.ref 20, .int 5]) jF_93_5 rfl rfl) ?_
                          refine Eq.trans (jr_gf (v := .ref 21) jF_93_6 (by decide +kernel)) ?_
                          refine Eq.trans (jr_al (v := 25) jF_93_9 (by decide +kernel)) ?_
                          refine Eq.trans (jr_ic0 jF_93_10 (by decide +kernel)) ?_
                          refine Eq.trans (jr_s (pc2 := 14) (lv2 := [(0, .ref 20), (1, .int 5), (2, .int a2)]) (st2 := [.int a2]) jF_93_13 rfl rfl) ?_
                          refine Eq.trans (jr_if1 jF_93_14 (jk_lt_lt (show (a2 : Int32).toInt < (0 : Int32).toInt by rw [show (0 : Int32).toInt = 0 from by decide]; omega))) ?_
                          refine Eq.trans (jr_s (pc2 := 33) (lv2 := [(0, .ref 20), (1, .int 5), (2, .int a2)]) (st2 := [.int (-1)]) jF_93_32 rfl rfl) ?_
                          exact jr_ri jF_93_33 rfl
                        exact jr_ri jF_92_9 rfl
                      · refine Eq.trans (jr_s (pc2 := 1) (lv2 := [(0, .ref 117), (1, .int 5), (2, .int a2)]) (st2 := [.ref 117]) jF_266_0 rfl rfl) ?_
                        refine Eq.trans (jr_s (pc2 := 2) (lv2 := [(0, .ref 117), (1, .int 5), (2, .int a2)]) (st2 := [.int 5, .ref 117]) jF_266_1 rfl rfl) ?_
                        refine Eq.trans (jr_cV (a := 117) (as := [.int 5]) (rest := []) (v := some (.long 0)) (hp2 := jh2) (fr2 := 499) (lo2 := 19979) jF_266_2 (by decide +kernel) rfl (show j_cnd 500 20000 499 19979 2 _ _ = true from rfl) ?_) ?_
                        · refine Eq.trans (jr_s (pc2 := 1) (lv2 := [(0, .ref 117), (1, .int 5)]) (st2 := [.int 5]) jF_267_0 rfl rfl) ?_
                          refine Eq.trans (jr_s (pc2 := 2) (lv2 := [(0, .ref 117), (1, .int 5)]) (st2 := [.long 5]) jF_267_1 rfl rfl) ?_
                          refine Eq.trans (jr_s (pc2 := 3) (lv2 := [(0, .ref 117), (1, .int 5)]) (st2 := [.long 0, .long 5]) jF_267_2 rfl rfl) ?_
                          refine Eq.trans (jr_s (pc2 := 6) (lv2 := [(0, .ref 117), (1, .int 5)]) (st2 := [.long 17, .long 0, .long 5]) jF_267_3 rfl rfl) ?_
                          refine Eq.trans (jr_cS (as := [.long 5, .long 0, .long 17]) (rest := []) (v := some (.int 1)) (hp2 := jh2) (fr2 := 498) (lo2 := 19954) jF_267_6 rfl (show j_cnd 499 19979 498 19954 6 _ _ = true from rfl) ?_) ?_
                          · refine Eq.trans (jr_s (pc2 := 1) (lv2 := [(0, .long 5), (2, .long 0), (4, .long 17)]) (st2 := [.long 5]) jF_232_0 rfl rfl) ?_
                            refine Eq.trans (jr_s (pc2 := 2) (lv2 := [(0, .long 5), (2, .long 0), (4, .long 17)]) (st2 := [.long 0, .long 5]) jF_232_1 rfl rfl) ?_
                            refine Eq.trans (jr_s (pc2 := 3) (lv2 := [(0, .long 5), (2, .long 0), (4, .long 17)]) (st2 := [.int 1]) jF_232_2 rfl rfl) ?_
                            refine Eq.trans (jr_if0 jF_232_3 (by decide +kernel)) ?_
                            refine Eq.trans (jr_s (pc2 := 7) (lv2 := [(0, .long 5), (2, .long 0), (4, .long 17)]) (st2 := [.long 5]) jF_232_6 rfl rfl) ?_
                            refine Eq.trans (jr_s (pc2 := 9) (lv2 := [(0, .long 5), (2, .long 0), (4, .long 17)]) (st2 := [.long 17, .long 5]) jF_232_7 rfl rfl) ?_
                            refine Eq.trans (jr_s (pc2 := 10) (lv2 := [(0, .long 5), (2, .long 0), (4, .long 17)]) (st2 := [.int (-1)]) jF_232_9 rfl rfl) ?_
                            refine Eq.trans (jr_if0 jF_232_10 (by decide +kernel)) ?_
                            refine Eq.trans (jr_s (pc2 := 14) (lv2 := [(0, .long 5), (2, .long 0), (4, .long 17)]) (st2 := [.int 1]) jF_232_13 rfl rfl) ?_
                            refine Eq.trans (jr_s (pc2 := 18) (lv2 := [(0, .long 5), (2, .long 0), (4, .long 17)]) (st2 := [.int 1]) jF_232_14 rfl rfl) ?_
                            exact jr_ri jF_232_18 rfl
                          refine Eq.trans (jr_if0 jF_267_9 (by decide +kernel)) ?_
                          refine Eq.trans (jr_s (pc2 := 13) (lv2 := [(0, .ref 117), (1, .int 5)]) (st2 := [.ref 117]) jF_267_12 rfl rfl) ?_
                          refine Eq.trans (jr_gf (v := .ref 138) jF_267_13 (by decide +kernel)) ?_
                          refine Eq.trans (jr_s (pc2 := 18) (lv2 := [(0, .ref 117), (1, .int 5)]) (st2 := [.int 18, .ref 138]) jF_267_16 rfl rfl) ?_
                          refine Eq.trans (jr_s (pc2 := 19) (lv2 := [(0, .ref 117), (1, .int 5)]) (st2 := [.int 5, .int 18, .ref 138]) jF_267_18 rfl rfl) ?_
                          refine Eq.trans (jr_s (pc2 := 20) (lv2 := [(0, .ref 117), (1, .int 5)]) (st2 := [.int 23, .ref 138]) jF_267_19 rfl rfl) ?_
                          refine Eq.trans (jr_ldl (v := .long 0) jF_267_20 (by decide +kernel)) ?_
                          exact jr_rl jF_267_21
                        refine Eq.trans (jr_s (pc2 := 6) (lv2 := [(3, .long 0), (0, .ref 117), (1, .int 5), (2, .int a2)]) (st2 := []) jF_266_5 rfl rfl) ?_
                        refine Eq.trans (jr_s (pc2 := 7) (lv2 := [(3, .long 0), (0, .ref 117), (1, .int 5), (2, .int a2)]) (st2 := [.long 0]) jF_266_6 rfl rfl) ?_
                        refine Eq.trans (jr_s (pc2 := 8) (lv2 := [(3, .long 0), (0, .ref 117), (1, .int 5), (2, .int a2)]) (st2 := [.long 0, .long 0]) jF_266_7 rfl rfl) ?_
                        refine Eq.trans (jr_s (pc2 := 9) (lv2 := [(3, .long 0), (0, .ref 117), (1, .int 5), (2, .int a2)]) (st2 := [.int 0]) jF_266_8 rfl rfl) ?_
                        refine Eq.trans (jr_if1 jF_266_9 (by decide +kernel)) ?_
                        refine Eq.trans (jr_s (pc2 := 25) (lv2 := [(3, .long 0), (0, .ref 117), (1, .int 5), (2, .int a2)]) (st2 := [.int (-1)]) jF_266_24 rfl rfl) ?_
                        exact jr_ri jF_266_25 rfl
                    · rcases j_ilt a1.toInt 7 with h_a1_7 | h_a1_7
                      · obtain rfl : a1 = 6 := Int32.toInt_inj.mp (by rw [show (6 : Int32).toInt = 6 from by decide]; omega)
                        refine ⟨60000, 60000, (-1), jh2, jh2, ?_, ?_, by decide +kernel⟩
                        · refine Eq.trans (jr_s (pc2 := 1) (lv2 := [(0, .ref 9), (1, .int 6), (2, .int a2)]) (st2 := [.ref 9]) jF_92_0 rfl rfl) ?_
                          refine Eq.trans (jr_gf (v := .ref 20) jF_92_1 (by decide +kernel)) ?_
                          refine Eq.trans (jr_s (pc2 := 5) (lv2 := [(0, .ref 9), (1, .int 6), (2, .int a2)]) (st2 := [.int 6, .ref 20]) jF_92_4 rfl rfl) ?_
                          refine Eq.trans (jr_s (pc2 := 6) (lv2 := [(0, .ref 9), (1, .int 6), (2, .int a2)]) (st2 := [.int a2, .int 6, .ref 20]) jF_92_5 rfl rfl) ?_
                          refine Eq.trans (jr_cV (a := 20) (as := [.int 6, .int a2]) (rest := []) (v := some (.int (-1))) (hp2 := jh2) (fr2 := 499) (lo2 := 19978) jF_92_6 (by decide +kernel) rfl (show j_cnd 500 20000 499 19978 3 _ _ = true from rfl) ?_) ?_
                          · refine Eq.trans (jr_s (pc2 := 1) (lv2 := [(0, .ref 20), (1, .int 6), (2, .int a2)]) (st2 := [.int 6]) jF_93_0 rfl rfl) ?_
                            refine Eq.trans (jr_if0 jF_93_1 (by decide +kernel)) ?_
                            refine Eq.trans (jr_s (pc2 := 5) (lv2 := [(0, .ref 20), (1, .int 6), (2, .int a2)]) (st2 := [.int 6]) jF_93_4 rfl rfl) ?_
                            refine Eq.trans (jr_s (pc2 := 6) (lv2 := [(0, .ref 20), (1, .int 6), (2, .int a2)]) (st2 := [.ref 20, .int 6]) jF_93_5 rfl rfl) ?_
                            refine Eq.trans (jr_gf (v := .ref 21) jF_93_6 (by decide +kernel)) ?_
                            refine Eq.trans (jr_al (v := 25) jF_93_9 (by decide +kernel)) ?_
                            refine Eq.trans (jr_ic0 jF_93_10 (by decide +kernel)) ?_
                            refine Eq.trans (jr_s (pc2 := 14) (lv2 := [(0, .ref 20), (1, .int 6), (2, .int a2)]) (st2 := [.int a2]) jF_93_13 rfl rfl) ?_
                            refine Eq.trans (jr_if1 jF_93_14 (jk_lt_lt (show (a2 : Int32).toInt < (0 : Int32).toInt by rw [show (0 : Int32).toInt = 0 from by decide]; omega))) ?_
                            refine Eq.trans (jr_s (pc2 := 33) (lv2 := [(0, .ref 20), (1, .int 6), (2, .int a2)]) (st2 := [.int (-1)]) jF_93_32 rfl rfl) ?_
                            exact jr_ri jF_93_33 rfl
                          exact jr_ri jF_92_9 rfl
                        · refine Eq.trans (jr_s (pc2 := 1) (lv2 := [(0, .ref 117), (1, .int 6), (2, .int a2)]) (st2 := [.ref 117]) jF_266_0 rfl rfl) ?_
                          refine Eq.trans (jr_s (pc2 := 2) (lv2 := [(0, .ref 117), (1, .int 6), (2, .int a2)]) (st2 := [.int 6, .ref 117]) jF_266_1 rfl rfl) ?_
                          refine Eq.trans (jr_cV (a := 117) (as := [.int 6]) (rest := []) (v := some (.long 0)) (hp2 := jh2) (fr2 := 499) (lo2 := 19979) jF_266_2 (by decide +kernel) rfl (show j_cnd 500 20000 499 19979 2 _ _ = true from rfl) ?_) ?_
                          · refine Eq.trans (jr_s (pc2 := 1) (lv2 := [(0, .ref 117), (1, .int 6)]) (st2 := [.int 6]) jF_267_0 rfl rfl) ?_
                            refine Eq.trans (jr_s (pc2 := 2) (lv2 := [(0, .ref 117), (1, .int 6)]) (st2 := [.long 6]) jF_267_1 rfl rfl) ?_
                            refine Eq.trans (jr_s (pc2 := 3) (lv2 := [(0, .ref 117), (1, .int 6)]) (st2 := [.long 0, .long 6]) jF_267_2 rfl rfl) ?_
                            refine Eq.trans (jr_s (pc2 := 6) (lv2 := [(0, .ref 117), (1, .int 6)]) (st2 := [.long 17, .long 0, .long 6]) jF_267_3 rfl rfl) ?_
                            refine Eq.trans (jr_cS (as := [.long 6, .long 0, .long 17]) (rest := []) (v := some (.int 1)) (hp2 := jh2) (fr2 := 498) (lo2 := 19954) jF_267_6 rfl (show j_cnd 499 19979 498 19954 6 _ _ = true from rfl) ?_) ?_
                            · refine Eq.trans (jr_s (pc2 := 1) (lv2 := [(0, .long 6), (2, .long 0), (4, .long 17)]) (st2 := [.long 6]) jF_232_0 rfl rfl) ?_
                              refine Eq.trans (jr_s (pc2 := 2) (lv2 := [(0, .long 6), (2, .long 0), (4, .long 17)]) (st2 := [.long 0, .long 6]) jF_232_1 rfl rfl) ?_
                              refine Eq.trans (jr_s (pc2 := 3) (lv2 := [(0, .long 6), (2, .long 0), (4, .long 17)]) (st2 := [.int 1]) jF_232_2 rfl rfl) ?_
                              refine Eq.trans (jr_if0 jF_232_3 (by decide +kernel)) ?_
                              refine Eq.trans (jr_s (pc2 := 7) (lv2 := [(0, .long 6), (2, .long 0), (4, .long 17)]) (st2 := [.long 6]) jF_232_6 rfl rfl) ?_
                              refine Eq.trans (jr_s (pc2 := 9) (lv2 := [(0, .long 6), (2, .long 0), (4, .long 17)]) (st2 := [.long 17, .long 6]) jF_232_7 rfl rfl) ?_
                              refine Eq.trans (jr_s (pc2 := 10) (lv2 := [(0, .long 6), (2, .long 0), (4, .long 17)]) (st2 := [.int (-1)]) jF_232_9 rfl rfl) ?_
                              refine Eq.trans (jr_if0 jF_232_10 (by decide +kernel)) ?_
                              refine Eq.trans (jr_s (pc2 := 14) (lv2 := [(0, .long 6), (2, .long 0), (4, .long 17)]) (st2 := [.int 1]) jF_232_13 rfl rfl) ?_
                              refine Eq.trans (jr_s (pc2 := 18) (lv2 := [(0, .long 6), (2, .long 0), (4, .long 17)]) (st2 := [.int 1]) jF_232_14 rfl rfl) ?_
                              exact jr_ri jF_232_18 rfl
                            refine Eq.trans (jr_if0 jF_267_9 (by decide +kernel)) ?_
                            refine Eq.trans (jr_s (pc2 := 13) (lv2 := [(0, .ref 117), (1, .int 6)]) (st2 := [.ref 117]) jF_267_12 rfl rfl) ?_
                            refine Eq.trans (jr_gf (v := .ref 138) jF_267_13 (by decide +kernel)) ?_
                            refine Eq.trans (jr_s (pc2 := 18) (lv2 := [(0, .ref 117), (1, .int 6)]) (st2 := [.int 18, .ref 138]) jF_267_16 rfl rfl) ?_
                            refine Eq.trans (jr_s (pc2 := 19) (lv2 := [(0, .ref 117), (1, .int 6)]) (st2 := [.int 6, .int 18, .ref 138]) jF_267_18 rfl rfl) ?_
                            refine Eq.trans (jr_s (pc2 := 20) (lv2 := [(0, .ref 117), (1, .int 6)]) (st2 := [.int 24, .ref 138]) jF_267_19 rfl rfl) ?_
                            refine Eq.trans (jr_ldl (v := .long 0) jF_267_20 (by decide +kernel)) ?_
                            exact jr_rl jF_267_21
                          refine Eq.trans (jr_s (pc2 := 6) (lv2 := [(3, .long 0), (0, .ref 117), (1, .int 6), (2, .int a2)]) (st2 := []) jF_266_5 rfl rfl) ?_
                          refine Eq.trans (jr_s (pc2 := 7) (lv2 := [(3, .long 0), (0, .ref 117), (1, .int 6), (2, .int a2)]) (st2 := [.long 0]) jF_266_6 rfl rfl) ?_
                          refine Eq.trans (jr_s (pc2 := 8) (lv2 := [(3, .long 0), (0, .ref 117), (1, .int 6), (2, .int a2)]) (st2 := [.long 0, .long 0]) jF_266_7 rfl rfl) ?_
                          refine Eq.trans (jr_s (pc2 := 9) (lv2 := [(3, .long 0), (0, .ref 117), (1, .int 6), (2, .int a2)]) (st2 := [.int 0]) jF_266_8 rfl rfl) ?_
                          refine Eq.trans (jr_if1 jF_266_9 (by decide +kernel)) ?_
                          refine Eq.trans (jr_s (pc2 := 25) (lv2 := [(3, .long 0), (0, .ref 117), (1, .int 6), (2, .int a2)]) (st2 := [.int (-1)]) jF_266_24 rfl rfl) ?_
                          exact jr_ri jF_266_25 rfl
                      · rcases j_ilt a1.toInt 8 with h_a1_8 | h_a1_8
                        · obtain rfl : a1 = 7 := Int32.toInt_inj.mp (by rw [show (7 : Int32).toInt = 7 from by decide]; omega)
                          refine ⟨60000, 60000, (-1), jh2, jh2, ?_, ?_, by decide +kernel⟩
                          · refine Eq.trans (jr_s (pc2 := 1) (lv2 := [(0, .ref 9), (1, .int 7), (2, .int a2)]) (st2 := [.ref 9]) jF_92_0 rfl rfl) ?_
                            refine Eq.trans (jr_gf (v := .ref 20) jF_92_1 (by decide +kernel)) ?_
                            refine Eq.trans (jr_s (pc2 := 5) (lv2 := [(0, .ref 9), (1, .int 7), (2, .int a2)]) (st2 := [.int 7, .ref 20]) jF_92_4 rfl rfl) ?_
                            refine Eq.trans (jr_s (pc2 := 6) (lv2 := [(0, .ref 9), (1, .int 7), (2, .int a2)]) (st2 := [.int a2, .int 7, .ref 20]) jF_92_5 rfl rfl) ?_
                            refine Eq.trans (jr_cV (a := 20) (as := [.int 7, .int a2]) (rest := []) (v := some (.int (-1))) (hp2 := jh2) (fr2 := 499) (lo2 := 19978) jF_92_6 (by decide +kernel) rfl (show j_cnd 500 20000 499 19978 3 _ _ = true from rfl) ?_) ?_
                            · refine Eq.trans (jr_s (pc2 := 1) (lv2 := [(0, .ref 20), (1, .int 7), (2, .int a2)]) (st2 := [.int 7]) jF_93_0 rfl rfl) ?_
                              refine Eq.trans (jr_if0 jF_93_1 (by decide +kernel)) ?_
                              refine Eq.trans (jr_s (pc2 := 5) (lv2 := [(0, .ref 20), (1, .int 7), (2, .int a2)]) (st2 := [.int 7]) jF_93_4 rfl rfl) ?_
                              refine Eq.trans (jr_s (pc2 := 6) (lv2 := [(0, .ref 20), (1, .int 7), (2, .int a2)]) (st2 := [.ref 20, .int 7]) jF_93_5 rfl rfl) ?_
                              refine Eq.trans (jr_gf (v := .ref 21) jF_93_6 (by decide +kernel)) ?_
                              refine Eq.trans (jr_al (v := 25) jF_93_9 (by decide +kernel)) ?_
                              refine Eq.trans (jr_ic0 jF_93_10 (by decide +kernel)) ?_
                              refine Eq.trans (jr_s (pc2 := 14) (lv2 := [(0, .ref 20), (1, .int 7), (2, .int a2)]) (st2 := [.int a2]) jF_93_13 rfl rfl) ?_
                              refine Eq.trans (jr_if1 jF_93_14 (jk_lt_lt (show (a2 : Int32).toInt < (0 : Int32).toInt by rw [show (0 : Int32).toInt = 0 from by decide]; omega))) ?_
                              refine Eq.trans (jr_s (pc2 := 33) (lv2 := [(0, .ref 20), (1, .int 7), (2, .int a2)]) (st2 := [.int (-1)]) jF_93_32 rfl rfl) ?_
                              exact jr_ri jF_93_33 rfl
                            exact jr_ri jF_92_9 rfl
                          · refine Eq.trans (jr_s (pc2 := 1) (lv2 := [(0, .ref 117), (1, .int 7), (2, .int a2)]) (st2 := [.ref 117]) jF_266_0 rfl rfl) ?_
                            refine Eq.trans (jr_s (pc2 := 2) (lv2 := [(0, .ref 117), (1, .int 7), (2, .int a2)]) (st2 := [.int 7, .ref 117]) jF_266_1 rfl rfl) ?_
                            refine Eq.trans (jr_cV (a := 117) (as := [.int 7]) (rest := []) (v := some (.long 0)) (hp2 := jh2) (fr2 := 499) (lo2 := 19979) jF_266_2 (by decide +kernel) rfl (show j_cnd 500 20000 499 19979 2 _ _ = true from rfl) ?_) ?_
                            · refine Eq.trans (jr_s (pc2 := 1) (lv2 := [(0, .ref 117), (1, .int 7)]) (st2 := [.int 7]) jF_267_0 rfl rfl) ?_
                              refine Eq.trans (jr_s (pc2 := 2) (lv2 := [(0, .ref 117), (1, .int 7)]) (st2 := [.long 7]) jF_267_1 rfl rfl) ?_
                              refine Eq.trans (jr_s (pc2 := 3) (lv2 := [(0, .ref 117), (1, .int 7)]) (st2 := [.long 0, .long 7]) jF_267_2 rfl rfl) ?_
                              refine Eq.trans (jr_s (pc2 := 6) (lv2 := [(0, .ref 117), (1, .int 7)]) (st2 := [.long 17, .long 0, .long 7]) jF_267_3 rfl rfl) ?_
                              refine Eq.trans (jr_cS (as := [.long 7, .long 0, .long 17]) (rest := []) (v := some (.int 1)) (hp2 := jh2) (fr2 := 498) (lo2 := 19954) jF_267_6 rfl (show j_cnd 499 19979 498 19954 6 _ _ = true from rfl) ?_) ?_
                              · refine Eq.trans (jr_s (pc2 := 1) (lv2 := [(0, .long 7), (2, .long 0), (4, .long 17)]) (st2 := [.long 7]) jF_232_0 rfl rfl) ?_
                                refine Eq.trans (jr_s (pc2 := 2) (lv2 := [(0, .long 7), (2, .long 0), (4, .long 17)]) (st2 := [.long 0, .long 7]) jF_232_1 rfl rfl) ?_
                                refine Eq.trans (jr_s (pc2 := 3) (lv2 := [(0, .long 7), (2, .long 0), (4, .long 17)]) (st2 := [.int 1]) jF_232_2 rfl rfl) ?_
                                refine Eq.trans (jr_if0 jF_232_3 (by decide +kernel)) ?_
                                refine Eq.trans (jr_s (pc2 := 7) (lv2 := [(0, .long 7), (2, .long 0), (4, .long 17)]) (st2 := [.long 7]) jF_232_6 rfl rfl) ?_
                                refine Eq.trans (jr_s (pc2 := 9) (lv2 := [(0, .long 7), (2, .long 0), (4, .long 17)]) (st2 := [.long 17, .long 7]) jF_232_7 rfl rfl) ?_
                                refine Eq.trans (jr_s (pc2 := 10) (lv2 := [(0, .long 7), (2, .long 0), (4, .long 17)]) (st2 := [.int (-1)]) jF_232_9 rfl rfl) ?_
                                refine Eq.trans (jr_if0 jF_232_10 (by decide +kernel)) ?_
                                refine Eq.trans (jr_s (pc2 := 14) (lv2 := [(0, .long 7), (2, .long 0), (4, .long 17)]) (st2 := [.int 1]) jF_232_13 rfl rfl) ?_
                                refine Eq.trans (jr_s (pc2 := 18) (lv2 := [(0, .long 7), (2, .long 0), (4, .long 17)]) (st2 := [.int 1]) jF_232_14 rfl rfl) ?_
                                exact jr_ri jF_232_18 rfl
                              refine Eq.trans (jr_if0 jF_267_9 (by decide +kernel)) ?_
                              refine Eq.trans (jr_s (pc2 := 13) (lv2 := [(0, .ref 117), (1, .int 7)]) (st2 := [.ref 117]) jF_267_12 rfl rfl) ?_
                              refine Eq.trans (jr_gf (v := .ref 138) jF_267_13 (by decide +kernel)) ?_
                              refine Eq.trans (jr_s (pc2 := 18) (lv2 := [(0, .ref 117), (1, .int 7)]) (st2 := [.int 18, .ref 138]) jF_267_16 rfl rfl) ?_
                              refine Eq.trans (jr_s (pc2 := 19) (lv2 := [(0, .ref 117), (1, .int 7)]) (st2 := [.int 7, .int 18, .ref 138]) jF_267_18 rfl rfl) ?_
                              refine Eq.trans (jr_s (pc2 := 20) (lv2 := [(0, .ref 117), (1, .int 7)]) (st2 := [.int 25, .ref 138]) jF_267_19 rfl rfl) ?_
                              refine Eq.trans (jr_ldl (v := .long 0) jF_267_20 (by decide +kernel)) ?_
                              exact jr_rl jF_267_21
                            refine Eq.trans (jr_s (pc2 := 6) (lv2 := [(3, .long 0), (0, .ref 117), (1, .int 7), (2, .int a2)]) (st2 := []) jF_266_5 rfl rfl) ?_
                            refine Eq.trans (jr_s (pc2 := 7) (lv2 := [(3, .long 0), (0, .ref 117), (1, .int 7), (2, .int a2)]) (st2 := [.long 0]) jF_266_6 rfl rfl) ?_
                            refine Eq.trans (jr_s (pc2 := 8) (lv2 := [(3, .long 0), (0, .ref 117), (1, .int 7), (2, .int a2)]) (st2 := [.long 0, .long 0]) jF_266_7 rfl rfl) ?_
                            refine Eq.trans (jr_s (pc2 := 9) (lv2 := [(3, .long 0), (0, .ref 117), (1, .int 7), (2, .int a2)]) (st2 := [.int 0]) jF_266_8 rfl rfl) ?_
                            refine Eq.trans (jr_if1 jF_266_9 (by decide +kernel)) ?_
                            refine Eq.trans (jr_s (pc2 := 25) (lv2 := [(3, .long 0), (0, .ref 117), (1, .int 7), (2, .int a2)]) (st2 := [.int (-1)]) jF_266_24 rfl rfl) ?_
                            exact jr_ri jF_266_25 rfl
                        · rcases j_ilt a1.toInt 9 with h_a1_9 | h_a1_9
                          · obtain rfl : a1 = 8 := Int32.toInt_inj.mp (by rw [show (8 : Int32).toInt = 8 from by decide]; omega)
                            refine ⟨60000, 60000, (-1), jh2, jh2, ?_, ?_, by decide +kernel⟩
                            · refine Eq.trans (jr_s (pc2 := 1) (lv2 := [(0, .ref 9), (1, .int 8), (2, .int a2)]) (st2 := [.ref 9]) jF_92_0 rfl rfl) ?_
                              refine Eq.trans (jr_gf (v := .ref 20) jF_92_1 (by decide +kernel)) ?_
                              refine Eq.trans (jr_s (pc2 := 5) (lv2 := [(0, .ref 9), (1, .int 8), (2, .int a2)]) (st2 := [.int 8, .ref 20]) jF_92_4 rfl rfl) ?_
                              refine Eq.trans (jr_s (pc2 := 6) (lv2 := [(0, .ref 9), (1, .int 8), (2, .int a2)]) (st2 := [.int a2, .int 8, .ref 20]) jF_92_5 rfl rfl) ?_
                              refine Eq.trans (jr_cV (a := 20) (as := [.int 8, .int a2]) (rest := []) (v := some (.int (-1))) (hp2 := jh2) (fr2 := 499) (lo2 := 19978) jF_92_6 (by decide +kernel) rfl (show j_cnd 500 20000 499 19978 3 _ _ = true from rfl) ?_) ?_
                              · refine Eq.trans (jr_s (pc2 := 1) (lv2 := [(0, .ref 20), (1, .int 8), (2, .int a2)]) (st2 := [.int 8]) jF_93_0 rfl rfl) ?_
                                refine Eq.trans (jr_if0 jF_93_1 (by decide +kernel)) ?_
                                refine Eq.trans (jr_s (pc2 := 5) (lv2 := [(0, .ref 20), (1, .int 8), (2, .int a2)]) (st2 := [.int 8]) jF_93_4 rfl rfl) ?_
                                refine Eq.trans (jr_s (pc2 := 6) (lv2 := [(0, .ref 20), (1, .int 8), (2, .int a2)]) (st2 := [.ref 20, .int 8]) jF_93_5 rfl rfl) ?_
                                refine Eq.trans (jr_gf (v := .ref 21) jF_93_6 (by decide +kernel)) ?_
                                refine Eq.trans (jr_al (v := 25) jF_93_9 (by decide +kernel)) ?_
                                refine Eq.trans (jr_ic0 jF_93_10 (by decide +kernel)) ?_
                                refine Eq.trans (jr_s (pc2 := 14) (lv2 := [(0, .ref 20), (1, .int 8), (2, .int a2)]) (st2 := [.int a2]) jF_93_13 rfl rfl) ?_
                                refine Eq.trans (jr_if1 jF_93_14 (jk_lt_lt (show (a2 : Int32).toInt < (0 : Int32).toInt by rw [show (0 : Int32).toInt = 0 from by decide]; omega))) ?_
                                refine Eq.trans (jr_s (pc2 := 33) (lv2 := [(0, .ref 20), (1, .int 8), (2, .int a2)]) (st2 := [.int (-1)]) jF_93_32 rfl rfl) ?_
                                exact jr_ri jF_93_33 rfl
                              exact jr_ri jF_92_9 rfl
                            · refine Eq.trans (jr_s (pc2 := 1) (lv2 := [(0, .ref 117), (1, .int 8), (2, .int a2)]) (st2 := [.ref 117]) jF_266_0 rfl rfl) ?_
                              refine Eq.trans (jr_s (pc2 := 2) (lv2 := [(0, .ref 117), (1, .int 8), (2, .int a2)]) (st2 := [.int 8, .ref 117]) jF_266_1 rfl rfl) ?_
                              refine Eq.trans (jr_cV (a := 117) (as := [.int 8]) (rest := []) (v := some (.long 0)) (hp2 := jh2) (fr2 := 499) (lo2 := 19979) jF_266_2 (by decide +kernel) rfl (show j_cnd 500 20000 499 19979 2 _ _ = true from rfl) ?_) ?_
                              · refine Eq.trans (jr_s (pc2 := 1) (lv2 := [(0, .ref 117), (1, .int 8)]) (st2 := [.int 8]) jF_267_0 rfl rfl) ?_
                                refine Eq.trans (jr_s (pc2 := 2) (lv2 := [(0, .ref 117), (1, .int 8)]) (st2 := [.long 8]) jF_267_1 rfl rfl) ?_
                                refine Eq.trans (jr_s (pc2 := 3) (lv2 := [(0, .ref 117), (1, .int 8)]) (st2 := [.long 0, .long 8]) jF_267_2 rfl rfl) ?_
                                refine Eq.trans (jr_s (pc2 := 6) (lv2 := [(0, .ref 117), (1, .int 8)]) (st2 := [.long 17, .long 0, .long 8]) jF_267_3 rfl rfl) ?_
                                refine Eq.trans (jr_cS (as := [.long 8, .long 0, .long 17]) (rest := []) (v := some (.int 1)) (hp2 := jh2) (fr2 := 498) (lo2 := 19954) jF_267_6 rfl (show j_cnd 499 19979 498 19954 6 _ _ = true from rfl) ?_) ?_
                                · refine Eq.trans (jr_s (pc2 := 1) (lv2 := [(0, .long 8), (2, .long 0), (4, .long 17)]) (st2 := [.long 8]) jF_232_0 rfl rfl) ?_
                                  refine Eq.trans (jr_s (pc2 := 2) (lv2 := [(0, .long 8), (2, .long 0), (4, .long 17)]) (st2 := [.long 0, .long 8]) jF_232_1 rfl rfl) ?_
                                  refine Eq.trans (jr_s (pc2 := 3) (lv2 := [(0, .long 8), (2, .long 0), (4, .long 17)]) (st2 := [.int 1]) jF_232_2 rfl rfl) ?_
                                  refine Eq.trans (jr_if0 jF_232_3 (by decide +kernel)) ?_
                                  refine Eq.trans (jr_s (pc2 := 7) (lv2 := [(0, .long 8), (2, .long 0), (4, .long 17)]) (st2 := [.long 8]) jF_232_6 rfl rfl) ?_
                                  refine Eq.trans (jr_s (pc2 := 9) (lv2 := [(0, .long 8), (2, .long 0), (4, .long 17)]) (st2 := [.long 17, .long 8]) jF_232_7 rfl rfl) ?_
                                  refine Eq.trans (jr_s (pc2 := 10) (lv2 := [(0, .long 8), (2, .long 0), (4, .long 17)]) (st2 := [.int (-1)]) jF_232_9 rfl rfl) ?_
                                  refine Eq.trans (jr_if0 jF_232_10 (by decide +kernel)) ?_
                                  refine Eq.trans (jr_s (pc2 := 14) (lv2 := [(0, .long 8), (2, .long 0), (4, .long 17)]) (st2 := [.int 1]) jF_232_13 rfl rfl) ?_
                                  refine Eq.trans (jr_s (pc2 := 18) (lv2 := [(0, .long 8), (2, .long 0), (4, .long 17)]) (st2 := [.int 1]) jF_232_14 rfl rfl) ?_
                                  exact jr_ri jF_232_18 rfl
                                refine Eq.trans (jr_if0 jF_267_9 (by decide +kernel)) ?_
                                refine Eq.trans (jr_s (pc2 := 13) (lv2 := [(0, .ref 117), (1, .int 8)]) (st2 := [.ref 117]) jF_267_12 rfl rfl) ?_
                                refine Eq.trans (jr_gf (v := .ref 138) jF_267_13 (by decide +kernel)) ?_
                                refine Eq.trans (jr_s (pc2 := 18) (lv2 := [(0, .ref 117), (1, .int 8)]) (st2 := [.int 18, .ref 138]) jF_267_16 rfl rfl) ?_
                                refine Eq.trans (jr_s (pc2 := 19) (lv2 := [(0, .ref 117), (1, .int 8)]) (st2 := [.int 8, .int 18, .ref 138]) jF_267_18 rfl rfl) ?_
                                refine Eq.trans (jr_s (pc2 := 20) (lv2 := [(0, .ref 117), (1, .int 8)]) (st2 := [.int 26, .ref 138]) jF_267_19 rfl rfl) ?_
                                refine Eq.trans (jr_ldl (v := .long 0) jF_267_20 (by decide +kernel)) ?_
                                exact jr_rl jF_267_21
                              refine Eq.trans (jr_s (pc2 := 6) (lv2 := [(3, .long 0), (0, .ref 117), (1, .int 8), (2, .int a2)]) (st2 := []) jF_266_5 rfl rfl) ?_
                              refine Eq.trans (jr_s (pc2 := 7) (lv2 := [(3, .long 0), (0, .ref 117), (1, .int 8), (2, .int a2)]) (st2 := [.long 0]) jF_266_6 rfl rfl) ?_
                              refine Eq.trans (jr_s (pc2 := 8) (lv2 := [(3, .long 0), (0, .ref 117), (1, .int 8), (2, .int a2)]) (st2 := [.long 0, .long 0]) jF_266_7 rfl rfl) ?_
                              refine Eq.trans (jr_s (pc2 := 9) (lv2 := [(3, .long 0), (0, .ref 117), (1, .int 8), (2, .int a2)]) (st2 := [.int 0]) jF_266_8 rfl rfl) ?_
                              refine Eq.trans (jr_if1 jF_266_9 (by decide +kernel)) ?_
                              refine Eq.trans (jr_s (pc2 := 25) (lv2 := [(3, .long 0), (0, .ref 117), (1, .int 8), (2, .int a2)]) (st2 := [.int (-1)]) jF_266_24 rfl rfl) ?_
                              exact jr_ri jF_266_25 rfl
                          · rcases j_ilt a1.toInt 10 with h_a1_10 | h_a1_10
                            · obtain rfl : a1 = 9 := Int32.toInt_inj.mp (by rw [show (9 : Int32).toInt = 9 from by decide]; omega)
                              refine ⟨60000, 60000, (-1), jh2, jh2, ?_, ?_, by decide +kernel⟩
                              · refine Eq.trans (jr_s (pc2 := 1) (lv2 := [(0, .ref 9), (1, .int 9), (2, .int a2)]) (st2 := [.ref 9]) jF_92_0 rfl rfl) ?_
                                refine Eq.trans (jr_gf (v := .ref 20) jF_92_1 (by decide +kernel)) ?_
                                refine Eq.trans (jr_s (pc2 := 5) (lv2 := [(0, .ref 9), (1, .int 9), (2, .int a2)]) (st2 := [.int 9, .ref 20]) jF_92_4 rfl rfl) ?_
                                refine Eq.trans (jr_s (pc2 := 6) (lv2 := [(0, .ref 9), (1, .int 9), (2, .int a2)]) (st2 := [.int a2, .int 9, .ref 20]) jF_92_5 rfl rfl) ?_
                                refine Eq.trans (jr_cV (a := 20) (as := [.int 9, .int a2]) (rest := []) (v := some (.int (-1))) (hp2 := jh2) (fr2 := 499) (lo2 := 19978) jF_92_6 (by decide +kernel) rfl (show j_cnd 500 20000 499 19978 3 _ _ = true from rfl) ?_) ?_
                                · refine Eq.trans (jr_s (pc2 := 1) (lv2 := [(0, .ref 20), (1, .int 9), (2, .int a2)]) (st2 := [.int 9]) jF_93_0 rfl rfl) ?_
                                  refine Eq.trans (jr_if0 jF_93_1 (by decide +kernel)) ?_
                                  refine Eq.trans (jr_s (pc2 := 5) (lv2 := [(0, .ref 20), (1, .int 9), (2, .int a2)]) (st2 := [.int 9]) jF_93_4 rfl rfl) ?_
                                  refine Eq.trans (jr_s (pc2 := 6) (lv2 := [(0, .ref 20), (1, .int 9), (2, .int a2)]) (st2 := [.ref 20, .int 9]) jF_93_5 rfl rfl) ?_
                                  refine Eq.trans (jr_gf (v := .ref 21) jF_93_6 (by decide +kernel)) ?_
                                  refine Eq.trans (jr_al (v := 25) jF_93_9 (by decide +kernel)) ?_
                                  refine Eq.trans (jr_ic0 jF_93_10 (by decide +kernel)) ?_
                                  refine Eq.trans (jr_s (pc2 := 14) (lv2 := [(0, .ref 20), (1, .int 9), (2, .int a2)]) (st2 := [.int a2]) jF_93_13 rfl rfl) ?_
                                  refine Eq.trans (jr_if1 jF_93_14 (jk_lt_lt (show (a2 : Int32).toInt < (0 : Int32).toInt by rw [show (0 : Int32).toInt = 0 from by decide]; omega))) ?_
                                  refine Eq.trans (jr_s (pc2 := 33) (lv2 := [(0, .ref 20), (1, .int 9), (2, .int a2)]) (st2 := [.int (-1)]) jF_93_32 rfl rfl) ?_
                                  exact jr_ri jF_93_33 rfl
                                exact jr_ri jF_92_9 rfl
                              · refine Eq.trans (jr_s (pc2 := 1) (lv2 := [(0, .ref 117), (1, .int 9), (2, .int a2)]) (st2 := [.ref 117]) jF_266_0 rfl rfl) ?_
                                refine Eq.trans (jr_s (pc2 := 2) (lv2 := [(0, .ref 117), (1, .int 9), (2, .int a2)]) (st2 := [.int 9, .ref 117]) jF_266_1 rfl rfl) ?_
                                refine Eq.trans (jr_cV (a := 117) (as := [.int 9]) (rest := []) (v := some (.long 0)) (hp2 := jh2) (fr2 := 499) (lo2 := 19979) jF_266_2 (by decide +kernel) rfl (show j_cnd 500 20000 499 19979 2 _ _ = true from rfl) ?_) ?_
                                · refine Eq.trans (jr_s (pc2 := 1) (lv2 := [(0, .ref 117), (1, .int 9)]) (st2 := [.int 9]) jF_267_0 rfl rfl) ?_
                                  refine Eq.trans (jr_s (pc2 := 2) (lv2 := [(0, .ref 117), (1, .int 9)]) (st2 := [.long 9]) jF_267_1 rfl rfl) ?_
                                  refine Eq.trans (jr_s (pc2 := 3) (lv2 := [(0, .ref 117), (1, .int 9)]) (st2 := [.long 0, .long 9]) jF_267_2 rfl rfl) ?_
                                  refine Eq.trans (jr_s (pc2 := 6) (lv2 := [(0, .ref 117), (1, .int 9)]) (st2 := [.long 17, .long 0, .long 9]) jF_267_3 rfl rfl) ?_
                                  refine Eq.trans (jr_cS (as := [.long 9, .long 0, .long 17]) (rest := []) (v := some (.int 1)) (hp2 := jh2) (fr2 := 498) (lo2 := 19954) jF_267_6 rfl (show j_cnd 499 19979 498 19954 6 _ _ = true from rfl) ?_) ?_
                                  · refine Eq.trans (jr_s (pc2 := 1) (lv2 := [(0, .long 9), (2, .long 0), (4, .long 17)]) (st2 := [.long 9]) jF_232_0 rfl rfl) ?_
                                    refine Eq.trans (jr_s (pc2 := 2) (lv2 := [(0, .long 9), (2, .long 0), (4, .long 17)]) (st2 := [.long 0, .long 9]) jF_232_1 rfl rfl) ?_
                                    refine Eq.trans (jr_s (pc2 := 3) (lv2 := [(0, .long 9), (2, .long 0), (4, .long 17)]) (st2 := [.int 1]) jF_232_2 rfl rfl) ?_
                                    refine Eq.trans (jr_if0 jF_232_3 (by decide +kernel)) ?_
                                    refine Eq.trans (jr_s (pc2 := 7) (lv2 := [(0, .long 9), (2, .long 0), (4, .long 17)]) (st2 := [.long 9]) jF_232_6 rfl rfl) ?_
                                    refine Eq.trans (jr_s (pc2 := 9) (lv2 := [(0, .long 9), (2, .long 0), (4, .long 17)]) (st2 := [.long 17, .long 9]) jF_232_7 rfl rfl) ?_
                                    refine Eq.trans (jr_s (pc2 := 10) (lv2 := [(0, .long 9), (2, .long 0), (4, .long 17)]) (st2 := [.int (-1)]) jF_232_9 rfl rfl) ?_
                                    refine Eq.trans (jr_if0 jF_232_10 (by decide +kernel)) ?_
                                    refine Eq.trans (jr_s (pc2 := 14) (lv2 := [(0, .long 9), (2, .long 0), (4, .long 17)]) (st2 := [.int 1]) jF_232_13 rfl rfl) ?_
                                    refine Eq.trans (jr_s (pc2 := 18) (lv2 := [(0, .long 9), (2, .long 0), (4, .long 17)]) (st2 := [.int 1]) jF_232_14 rfl rfl) ?_
                                    exact jr_ri jF_232_18 rfl
                                  refine Eq.trans (jr_if0 jF_267_9 (by decide +kernel)) ?_
                                  refine Eq.trans (jr_s (pc2 := 13) (lv2 := [(0, .ref 117), (1, .int 9)]) (st2 := [.ref 117]) jF_267_12 rfl rfl) ?_
                                  refine Eq.trans (jr_gf (v := .ref 138) jF_267_13 (by decide +kernel)) ?_
                                  refine Eq.trans (jr_s (pc2 := 18) (lv2 := [(0, .ref 117), (1, .int 9)]) (st2 := [.int 18, .ref 138]) jF_267_16 rfl rfl) ?_
                                  refine Eq.trans (jr_s (pc2 := 19) (lv2 := [(0, .ref 117), (1, .int 9)]) (st2 := [.int 9, .int 18, .ref 138]) jF_267_18 rfl rfl) ?_
                                  refine Eq.trans (jr_s (pc2 := 20) (lv2 := [(0, .ref 117), (1, .int 9)]) (st2 := [.int 27, .ref 138]) jF_267_19 rfl rfl) ?_
                                  refine Eq.trans (jr_ldl (v := .long 0) jF_267_20 (by decide +kernel)) ?_
                                  exact jr_rl jF_267_21
                                refine Eq.trans (jr_s (pc2 := 6) (lv2 := [(3, .long 0), (0, .ref 117), (1, .int 9), (2, .int a2)]) (st2 := []) jF_266_5 rfl rfl) ?_
                                refine Eq.trans (jr_s (pc2 := 7) (lv2 := [(3, .long 0), (0, .ref 117), (1, .int 9), (2, .int a2)]) (st2 := [.long 0]) jF_266_6 rfl rfl) ?_
                                refine Eq.trans (jr_s (pc2 := 8) (lv2 := [(3, .long 0), (0, .ref 117), (1, .int 9), (2, .int a2)]) (st2 := [.long 0, .long 0]) jF_266_7 rfl rfl) ?_
                                refine Eq.trans (jr_s (pc2 := 9) (lv2 := [(3, .long 0), (0, .ref 117), (1, .int 9), (2, .int a2)]) (st2 := [.int 0]) jF_266_8 rfl rfl) ?_
                                refine Eq.trans (jr_if1 jF_266_9 (by decide +kernel)) ?_
                                refine Eq.trans (jr_s (pc2 := 25) (lv2 := [(3, .long 0), (0, .ref 117), (1, .int 9), (2, .int a2)]) (st2 := [.int (-1)]) jF_266_24 rfl rfl) ?_
                                exact jr_ri jF_266_25 rfl
                            · rcases j_ilt a1.toInt 11 with h_a1_11 | h_a1_11
                              · obtain rfl : a1 = 10 := Int32.toInt_inj.mp (by rw [show (10 : Int32).toInt = 10 from by decide]; omega)
                                refine ⟨60000, 60000, (-1), jh2, jh2, ?_, ?_, by decide +kernel⟩
                                · refine Eq.trans (jr_s (pc2 := 1) (lv2 := [(0, .ref 9), (1, .int 10), (2, .int a2)]) (st2 := [.ref 9]) jF_92_0 rfl rfl) ?_
                                  refine Eq.trans (jr_gf (v := .ref 20) jF_92_1 (by decide +kernel)) ?_
                                  refine Eq.trans (jr_s (pc2 := 5) (lv2 := [(0, .ref 9), (1, .int 10), (2, .int a2)]) (st2 := [.int 10, .ref 20]) jF_92_4 rfl rfl) ?_
                                  refine Eq.trans (jr_s (pc2 := 6) (lv2 := [(0, .ref 9), (1, .int 10), (2, .int a2)]) (st2 := [.int a2, .int 10, .ref 20]) jF_92_5 rfl rfl) ?_
                                  refine Eq.trans (jr_cV (a := 20) (as := [.int 10, .int a2]) (rest := []) (v := some (.int (-1))) (hp2 := jh2) (fr2 := 499) (lo2 := 19978) jF_92_6 (by decide +kernel) rfl (show j_cnd 500 20000 499 19978 3 _ _ = true from rfl) ?_) ?_
                                  · refine Eq.trans (jr_s (pc2 := 1) (lv2 := [(0, .ref 20), (1, .int 10), (2, .int a2)]) (st2 := [.int 10]) jF_93_0 rfl rfl) ?_
                                    refine Eq.trans (jr_if0 jF_93_1 (by decide +kernel)) ?_
                                    refine Eq.trans (jr_s (pc2 := 5) (lv2 := [(0, .ref 20), (1, .int 10), (2, .int a2)]) (st2 := [.int 10]) jF_93_4 rfl rfl) ?_
                                    refine Eq.trans (jr_s (pc2 := 6) (lv2 := [(0, .ref 20), (1, .int 10), (2, .int a2)]) (st2 := [.ref 20, .int 10]) jF_93_5 rfl rfl) ?_
                                    refine Eq.trans (jr_gf (v := .ref 21) jF_93_6 (by decide +kernel)) ?_
                                    refine Eq.trans (jr_al (v := 25) jF_93_9 (by decide +kernel)) ?_
                                    refine Eq.trans (jr_ic0 jF_93_10 (by decide +kernel)) ?_
                                    refine Eq.trans (jr_s (pc2 := 14) (lv2 := [(0, .ref 20), (1, .int 10), (2, .int a2)]) (st2 := [.int a2]) jF_93_13 rfl rfl) ?_
                                    refine Eq.trans (jr_if1 jF_93_14 (jk_lt_lt (show (a2 : Int32).toInt < (0 : Int32).toInt by rw [show (0 : Int32).toInt = 0 from by decide]; omega))) ?_
                                    refine Eq.trans (jr_s (pc2 := 33) (lv2 := [(0, .ref 20), (1, .int 10), (2, .int a2)]) (st2 := [.int (-1)]) jF_93_32 rfl rfl) ?_
                                    exact jr_ri jF_93_33 rfl
                                  exact jr_ri jF_92_9 rfl
                                · refine Eq.trans (jr_s (pc2 := 1) (lv2 := [(0, .ref 117), (1, .int 10), (2, .int a2)]) (st2 := [.ref 117]) jF_266_0 rfl rfl) ?_
                                  refine Eq.trans (jr_s (pc2 := 2) (lv2 := [(0, .ref 117), (1, .int 10), (2, .int a2)]) (st2 := [.int 10, .ref 117]) jF_266_1 rfl rfl) ?_
                                  refine Eq.trans (jr_cV (a := 117) (as := [.int 10]) (rest := []) (v := some (.long 0)) (hp2 := jh2) (fr2 := 499) (lo2 := 19979) jF_266_2 (by decide +kernel) rfl (show j_cnd 500 20000 499 19979 2 _ _ = true from rfl) ?_) ?_
                                  · refine Eq.trans (jr_s (pc2 := 1) (lv2 := [(0, .ref 117), (1, .int 10)]) (st2 := [.int 10]) jF_267_0 rfl rfl) ?_
                                    refine Eq.trans (jr_s (pc2 := 2) (lv2 := [(0, .ref 117), (1, .int 10)]) (st2 := [.long 10]) jF_267_1 rfl rfl) ?_
                                    refine Eq.trans (jr_s (pc2 := 3) (lv2 := [(0, .ref 117), (1, .int 10)]) (st2 := [.long 0, .long 10]) jF_267_2 rfl rfl) ?_
                                    refine Eq.trans (jr_s (pc2 := 6) (lv2 := [(0, .ref 117), (1, .int 10)]) (st2 := [.long 17, .long 0, .long 10]) jF_267_3 rfl rfl) ?_
                                    refine Eq.trans (jr_cS (as := [.long 10, .long 0, .long 17]) (rest := []) (v := some (.int 1)) (hp2 := jh2) (fr2 := 498) (lo2 := 19954) jF_267_6 rfl (show j_cnd 499 19979 498 19954 6 _ _ = true from rfl) ?_) ?_
                                    · refine Eq.trans (jr_s (pc2 := 1) (lv2 := [(0, .long 10), (2, .long 0), (4, .long 17)]) (st2 := [.long 10]) jF_232_0 rfl rfl) ?_
                                      refine Eq.trans (jr_s (pc2 := 2) (lv2 := [(0, .long 10), (2, .long 0), (4, .long 17)]) (st2 := [.long 0, .long 10]) jF_232_1 rfl rfl) ?_
                                      refine Eq.trans (jr_s (pc2 := 3) (lv2 := [(0, .long 10), (2, .long 0), (4, .long 17)]) (st2 := [.int 1]) jF_232_2 rfl rfl) ?_
                                      refine Eq.trans (jr_if0 jF_232_3 (by decide +kernel)) ?_
                                      refine Eq.trans (jr_s (pc2 := 7) (lv2 := [(0, .long 10), (2, .long 0), (4, .long 17)]) (st2 := [.long 10]) jF_232_6 rfl rfl) ?_
                                      refine Eq.trans (jr_s (pc2 := 9) (lv2 := [(0, .long 10), (2, .long 0), (4, .long 17)]) (st2 := [.long 17, .long 10]) jF_232_7 rfl rfl) ?_
                                      refine Eq.trans (jr_s (pc2 := 10) (lv2 := [(0, .long 10), (2, .long 0), (4, .long 17)]) (st2 := [.int (-1)]) jF_232_9 rfl rfl) ?_
                                      refine Eq.trans (jr_if0 jF_232_10 (by decide +kernel)) ?_
                                      refine Eq.trans (jr_s (pc2 := 14) (lv2 := [(0, .long 10), (2, .long 0), (4, .long 17)]) (st2 := [.int 1]) jF_232_13 rfl rfl) ?_
                                      refine Eq.trans (jr_s (pc2 := 18) (lv2 := [(0, .long 10), (2, .long 0), (4, .long 17)]) (st2 := [.int 1]) jF_232_14 rfl rfl) ?_
                                      exact jr_ri jF_232_18 rfl
                                    refine Eq.trans (jr_if0 jF_267_9 (by decide +kernel)) ?_
                                    refine Eq.trans (jr_s (pc2 := 13) (lv2 := [(0, .ref 117), (1, .int 10)]) (st2 := [.ref 117]) jF_267_12 rfl rfl) ?_
                                    refine Eq.trans (jr_gf (v := .ref 138) jF_267_13 (by decide +kernel)) ?_
                                    refine Eq.trans (jr_s (pc2 := 18) (lv2 := [(0, .ref 117), (1, .int 10)]) (st2 := [.int 18, .ref 138]) jF_267_16 rfl rfl) ?_
                                    refine Eq.trans (jr_s (pc2 := 19) (lv2 := [(0, .ref 117), (1, .int 10)]) (st2 := [.int 10, .int 18, .ref 138]) jF_267_18 rfl rfl) ?_
                                    refine Eq.trans (jr_s (pc2 := 20) (lv2 := [(0, .ref 117), (1, .int 10)]) (st2 := [.int 28, .ref 138]) jF_267_19 rfl rfl) ?_
                                    refine Eq.trans (jr_ldl (v := .long 0) jF_267_20 (by decide +kernel)) ?_
                                    exact jr_rl jF_267_21
                                  refine Eq.trans (jr_s (pc2 := 6) (lv2 := [(3, .long 0), (0, .ref 117), (1, .int 10), (2, .int a2)]) (st2 := []) jF_266_5 rfl rfl) ?_
                                  refine Eq.trans (jr_s (pc2 := 7) (lv2 := [(3, .long 0), (0, .ref 117), (1, .int 10), (2, .int a2)]) (st2 := [.long 0]) jF_266_6 rfl rfl) ?_
                                  refine Eq.trans (jr_s (pc2 := 8) (lv2 := [(3, .long 0), (0, .ref 117), (1, .int 10), (2, .int a2)]) (st2 := [.long 0, .long 0]) jF_266_7 rfl rfl) ?_
                                  refine Eq.trans (jr_s (pc2 := 9) (lv2 := [(3, .long 0), (0, .ref 117), (1, .int 10), (2, .int a2)]) (st2 := [.int 0]) jF_266_8 rfl rfl) ?_
                                  refine Eq.trans (jr_if1 jF_266_9 (by decide +kernel)) ?_
                                  refine Eq.trans (jr_s (pc2 := 25) (lv2 := [(3, .long 0), (0, .ref 117), (1, .int 10), (2, .int a2)]) (st2 := [.int (-1)]) jF_266_24 rfl rfl) ?_
                                  exact jr_ri jF_266_25 rfl
                              · rcases j_ilt a1.toInt 12 with h_a1_12 | h_a1_12
                                · obtain rfl : a1 = 11 := Int32.toInt_inj.mp (by rw [show (11 : Int32).toInt = 11 from by decide]; omega)
                                  refine ⟨60000, 60000, (-1), jh2, jh2, ?_, ?_, by decide +kernel⟩
                                  · refine Eq.trans (jr_s (pc2 := 1) (lv2 := [(0, .ref 9), (1, .int 11), (2, .int a2)]) (st2 := [.ref 9]) jF_92_0 rfl rfl) ?_
                                    refine Eq.trans (jr_gf (v := .ref 20) jF_92_1 (by decide +kernel)) ?_
                                    refine Eq.trans (jr_s (pc2 := 5) (lv2 := [(0, .ref 9), (1, .int 11), (2, .int a2)]) (st2 := [.int 11, .ref 20]) jF_92_4 rfl rfl) ?_
                                    refine Eq.trans (jr_s (pc2 := 6) (lv2 := [(0, .ref 9), (1, .int 11), (2, .int a2)]) (st2 := [.int a2, .int 11, .ref 20]) jF_92_5 rfl rfl) ?_
                                    refine Eq.trans (jr_cV (a := 20) (as := [.int 11, .int a2]) (rest := []) (v := some (.int (-1))) (hp2 := jh2) (fr2 := 499) (lo2 := 19978) jF_92_6 (by decide +kernel) rfl (show j_cnd 500 20000 499 19978 3 _ _ = true from rfl) ?_) ?_
                                    · refine Eq.trans (jr_s (pc2 := 1) (lv2 := [(0, .ref 20), (1, .int 11), (2, .int a2)]) (st2 := [.int 11]) jF_93_0 rfl rfl) ?_
                                      refine Eq.trans (jr_if0 jF_93_1 (by decide +kernel)) ?_
                                      refine Eq.trans (jr_s (pc2 := 5) (lv2 := [(0, .ref 20), (1, .int 11), (2, .int a2)]) (st2 := [.int 11]) jF_93_4 rfl rfl) ?_
                                      refine Eq.trans (jr_s (pc2 := 6) (lv2 := [(0, .ref 20), (1, .int 11), (2, .int a2)]) (st2 := [.ref 20, .int 11]) jF_93_5 rfl rfl) ?_
                                      refine Eq.trans (jr_gf (v := .ref 21) jF_93_6 (by decide +kernel)) ?_
                                      refine Eq.trans (jr_al (v := 25) jF_93_9 (by decide +kernel)) ?_
                                      refine Eq.trans (jr_ic0 jF_93_10 (by decide +kernel)) ?_
                                      refine Eq.trans (jr_s (pc2 := 14) (lv2 := [(0, .ref 20), (1, .int 11), (2, .int a2)]) (st2 := [.int a2]) jF_93_13 rfl rfl) ?_
                                      refine Eq.trans (jr_if1 jF_93_14 (jk_lt_lt (show (a2 : Int32).toInt < (0 : Int32).toInt by rw [show (0 : Int32).toInt = 0 from by decide]; omega))) ?_
                                      refine Eq.trans (jr_s (pc2 := 33) (lv2 := [(0, .ref 20), (1, .int 11), (2, .int a2)]) (st2 := [.int (-1)]) jF_93_32 rfl rfl) ?_
                                      exact jr_ri jF_93_33 rfl
                                    exact jr_ri jF_92_9 rfl
                                  · refine Eq.trans (jr_s (pc2 := 1) (lv2 := [(0, .ref 117), (1, .int 11), (2, .int a2)]) (st2 := [.ref 117]) jF_266_0 rfl rfl) ?_
                                    refine Eq.trans (jr_s (pc2 := 2) (lv2 := [(0, .ref 117), (1, .int 11), (2, .int a2)]) (st2 := [.int 11, .ref 117]) jF_266_1 rfl rfl) ?_
                                    refine Eq.trans (jr_cV (a := 117) (as := [.int 11]) (rest := []) (v := some (.long 0)) (hp2 := jh2) (fr2 := 499) (lo2 := 19979) jF_266_2 (by decide +kernel) rfl (show j_cnd 500 20000 499 19979 2 _ _ = true from rfl) ?_) ?_
                                    · refine Eq.trans (jr_s (pc2 := 1) (lv2 := [(0, .ref 117), (1, .int 11)]) (st2 := [.int 11]) jF_267_0 rfl rfl) ?_
                                      refine Eq.trans (jr_s (pc2 := 2) (lv2 := [(0, .ref 117), (1, .int 11)]) (st2 := [.long 11]) jF_267_1 rfl rfl) ?_
                                      refine Eq.trans (jr_s (pc2 := 3) (lv2 := [(0, .ref 117), (1, .int 11)]) (st2 := [.long 0, .long 11]) jF_267_2 rfl rfl) ?_
                                      refine Eq.trans (jr_s (pc2 := 6) (lv2 := [(0, .ref 117), (1, .int 11)]) (st2 := [.long 17, .long 0, .long 11]) jF_267_3 rfl rfl) ?_
                                      refine Eq.trans (jr_cS (as := [.long 11, .long 0, .long 17]) (rest := []) (v := some (.int 1)) (hp2 := jh2) (fr2 := 498) (lo2 := 19954) jF_267_6 rfl (show j_cnd 499 19979 498 19954 6 _ _ = true from rfl) ?_) ?_
                                      · refine Eq.trans (jr_s (pc2 := 1) (lv2 := [(0, .long 11), (2, .long 0), (4, .long 17)]) (st2 := [.long 11]) jF_232_0 rfl rfl) ?_
                                        refine Eq.trans (jr_s (pc2 := 2) (lv2 := [(0, .long 11), (2, .long 0), (4, .long 17)]) (st2 := [.long 0, .long 11]) jF_232_1 rfl rfl) ?_
                                        refine Eq.trans (jr_s (pc2 := 3) (lv2 := [(0, .long 11), (2, .long 0), (4, .long 17)]) (st2 := [.int 1]) jF_232_2 rfl rfl) ?_
                                        refine Eq.trans (jr_if0 jF_232_3 (by decide +kernel)) ?_
                                        refine Eq.trans (jr_s (pc2 := 7) (lv2 := [(0, .long 11), (2, .long 0), (4, .long 17)]) (st2 := [.long 11]) jF_232_6 rfl rfl) ?_
                                        refine Eq.trans (jr_s (pc2 := 9) (lv2 := [(0, .long 11), (2, .long 0), (4, .long 17)]) (st2 := [.long 17, .long 11]) jF_232_7 rfl rfl) ?_
                                        refine Eq.trans (jr_s (pc2 := 10) (lv2 := [(0, .long 11), (2, .long 0), (4, .long 17)]) (st2 := [.int (-1)]) jF_232_9 rfl rfl) ?_
                                        refine Eq.trans (jr_if0 jF_232_10 (by decide +kernel)) ?_
                                        refine Eq.trans (jr_s (pc2 := 14) (lv2 := [(0, .long 11), (2, .long 0), (4, .long 17)]) (st2 := [.int 1]) jF_232_13 rfl rfl) ?_
                                        refine Eq.trans (jr_s (pc2 := 18) (lv2 := [(0, .long 11), (2, .long 0), (4, .long 17)]) (st2 := [.int 1]) jF_232_14 rfl rfl) ?_
                                        exact jr_ri jF_232_18 rfl
                                      refine Eq.trans (jr_if0 jF_267_9 (by decide +kernel)) ?_
                                      refine Eq.trans (jr_s (pc2 := 13) (lv2 := [(0, .ref 117), (1, .int 11)]) (st2 := [.ref 117]) jF_267_12 rfl rfl) ?_
                                      refine Eq.trans (jr_gf (v := .ref 138) jF_267_13 (by decide +kernel)) ?_
                                      refine Eq.trans (jr_s (pc2 := 18) (lv2 := [(0, .ref 117), (1, .int 11)]) (st2 := [.int 18, .ref 138]) jF_267_16 rfl rfl) ?_
                                      refine Eq.trans (jr_s (pc2 := 19) (lv2 := [(0, .ref 117), (1, .int 11)]) (st2 := [.int 11, .int 18, .ref 138]) jF_267_18 rfl rfl) ?_
                                      refine Eq.trans (jr_s (pc2 := 20) (lv2 := [(0, .ref 117), (1, .int 11)]) (st2 := [.int 29, .ref 138]) jF_267_19 rfl rfl) ?_
                                      refine Eq.trans (jr_ldl (v := .long 0) jF_267_20 (by decide +kernel)) ?_
                                      exact jr_rl jF_267_21
                                    refine Eq.trans (jr_s (pc2 := 6) (lv2 := [(3, .long 0), (0, .ref 117), (1, .int 11), (2, .int a2)]) (st2 := []) jF_266_5 rfl rfl) ?_
                                    refine Eq.trans (jr_s (pc2 := 7) (lv2 := [(3, .long 0), (0, .ref 117), (1, .int 11), (2, .int a2)]) (st2 := [.long 0]) jF_266_6 rfl rfl) ?_
                                    refine Eq.trans (jr_s (pc2 := 8) (lv2 := [(3, .long 0), (0, .ref 117), (1, .int 11), (2, .int a2)]) (st2 := [.long 0, .long 0]) jF_266_7 rfl rfl) ?_
                                    refine Eq.trans (jr_s (pc2 := 9) (lv2 := [(3, .long 0), (0, .ref 117), (1, .int 11), (2, .int a2)]) (st2 := [.int 0]) jF_266_8 rfl rfl) ?_
                                    refine Eq.trans (jr_if1 jF_266_9 (by decide +kernel)) ?_
                                    refine Eq.trans (jr_s (pc2 := 25) (lv2 := [(3, .long 0), (0, .ref 117), (1, .int 11), (2, .int a2)]) (st2 := [.int (-1)]) jF_266_24 rfl rfl) ?_
                                    exact jr_ri jF_266_25 rfl
                                · rcases j_ilt a1.toInt 13 with h_a1_13 | h_a1_13
                                  · obtain rfl : a1 = 12 := Int32.toInt_inj.mp (by rw [show (12 : Int32).toInt = 12 from by decide]; omega)
                                    refine ⟨60000, 60000, (-1), jh2, jh2, ?_, ?_, by decide +kernel⟩
                                    · refine Eq.trans (jr_s (pc2 := 1) (lv2 := [(0, .ref 9), (1, .int 12), (2, .int a2)]) (st2 := [.ref 9]) jF_92_0 rfl rfl) ?_
                                      refine Eq.trans (jr_gf (v := .ref 20) jF_92_1 (by decide +kernel)) ?_
                                      refine Eq.trans (jr_s (pc2 := 5) (lv2 := [(0, .ref 9), (1, .int 12), (2, .int a2)]) (st2 := [.int 12, .ref 20]) jF_92_4 rfl rfl) ?_
                                      refine Eq.trans (jr_s (pc2 := 6) (lv2 := [(0, .ref 9), (1, .int 12), (2, .int a2)]) (st2 := [.int a2, .int 12, .ref 20]) jF_92_5 rfl rfl) ?_
                                      refine Eq.trans (jr_cV (a := 20) (as := [.int 12, .int a2]) (rest := []) (v := some (.int (-1))) (hp2 := jh2) (fr2 := 499) (lo2 := 19978) jF_92_6 (by decide +kernel) rfl (show j_cnd 500 20000 499 19978 3 _ _ = true from rfl) ?_) ?_
                                      · refine Eq.trans (jr_s (pc2 := 1) (lv2 := [(0, .ref 20), (1, .int 12), (2, .int a2)]) (st2 := [.int 12]) jF_93_0 rfl rfl) ?_
                                        refine Eq.trans (jr_if0 jF_93_1 (by decide +kernel)) ?_
                                        refine Eq.trans (jr_s (pc2 := 5) (lv2 := [(0, .ref 20), (1, .int 12), (2, .int a2)]) (st2 := [.int 12]) jF_93_4 rfl rfl) ?_
                                        refine Eq.trans (jr_s (pc2 := 6) (lv2 := [(0, .ref 20), (1, .int 12), (2, .int a2)]) (st2 := [.ref 20, .int 12]) jF_93_5 rfl rfl) ?_
                                        refine Eq.trans (jr_gf (v := .ref 21) jF_93_6 (by decide +kernel)) ?_
                                        refine Eq.trans (jr_al (v := 25) jF_93_9 (by decide +kernel)) ?_
                                        refine Eq.trans (jr_ic0 jF_93_10 (by decide +kernel)) ?_
                                        refine Eq.trans (jr_s (pc2 := 14) (lv2 := [(0, .ref 20), (1, .int 12), (2, .int a2)]) (st2 := [.int a2]) jF_93_13 rfl rfl) ?_
                                        refine Eq.trans (jr_if1 jF_93_14 (jk_lt_lt (show (a2 : Int32).toInt < (0 : Int32).toInt by rw [show (0 : Int32).toInt = 0 from by decide]; omega))) ?_
                                        refine Eq.trans (jr_s (pc2 := 33) (lv2 := [(0, .ref 20), (1, .int 12), (2, .int a2)]) (st2 := [.int (-1)]) jF_93_32 rfl rfl) ?_
                                        exact jr_ri jF_93_33 rfl
                                      exact jr_ri jF_92_9 rfl
                                    · refine Eq.trans (jr_s (pc2 := 1) (lv2 := [(0, .ref 117), (1, .int 12), (2, .int a2)]) (st2 := [.ref 117]) jF_266_0 rfl rfl) ?_
                                      refine Eq.trans (jr_s (pc2 := 2) (lv2 := [(0, .ref 117), (1, .int 12), (2, .int a2)]) (st2 := [.int 12, .ref 117]) jF_266_1 rfl rfl) ?_
                                      refine Eq.trans (jr_cV (a := 117) (as := [.int 12]) (rest := []) (v := some (.long 0)) (hp2 := jh2) (fr2 := 499) (lo2 := 19979) jF_266_2 (by decide +kernel) rfl (show j_cnd 500 20000 499 19979 2 _ _ = true from rfl) ?_) ?_
                                      · refine Eq.trans (jr_s (pc2 := 1) (lv2 := [(0, .ref 117), (1, .int 12)]) (st2 := [.int 12]) jF_267_0 rfl rfl) ?_
                                        refine Eq.trans (jr_s (pc2 := 2) (lv2 := [(0, .ref 117), (1, .int 12)]) (st2 := [.long 12]) jF_267_1 rfl rfl) ?_
                                        refine Eq.trans (jr_s (pc2 := 3) (lv2 := [(0, .ref 117), (1, .int 12)]) (st2 := [.long 0, .long 12]) jF_267_2 rfl rfl) ?_
                                        refine Eq.trans (jr_s (pc2 := 6) (lv2 := [(0, .ref 117), (1, .int 12)]) (st2 := [.long 17, .long 0, .long 12]) jF_267_3 rfl rfl) ?_
                                        refine Eq.trans (jr_cS (as := [.long 12, .long 0, .long 17]) (rest := []) (v := some (.int 1)) (hp2 := jh2) (fr2 := 498) (lo2 := 19954) jF_267_6 rfl (show j_cnd 499 19979 498 19954 6 _ _ = true from rfl) ?_) ?_
                                        · refine Eq.trans (jr_s (pc2 := 1) (lv2 := [(0, .long 12), (2, .long 0), (4, .long 17)]) (st2 := [.long 12]) jF_232_0 rfl rfl) ?_
                                          refine Eq.trans (jr_s (pc2 := 2) (lv2 := [(0, .long 12), (2, .long 0), (4, .long 17)]) (st2 := [.long 0, .long 12]) jF_232_1 rfl rfl) ?_
                                          refine Eq.trans (jr_s (pc2 := 3) (lv2 := [(0, .long 12), (2, .long 0), (4, .long 17)]) (st2 := [.int 1]) jF_232_2 rfl rfl) ?_
                                          refine Eq.trans (jr_if0 jF_232_3 (by decide +kernel)) ?_
                                          refine Eq.trans (jr_s (pc2 := 7) (lv2 := [(0, .long 12), (2, .long 0), (4, .long 17)]) (st2 := [.long 12]) jF_232_6 rfl rfl) ?_
                                          refine Eq.trans (jr_s (pc2 := 9) (lv2 := [(0, .long 12), (2, .long 0), (4, .long 17)]) (st2 := [.long 17, .long 12]) jF_232_7 rfl rfl) ?_
                                          refine Eq.trans (jr_s (pc2 := 10) (lv2 := [(0, .long 12), (2, .long 0), (4, .long 17)]) (st2 := [.int (-1)]) jF_232_9 rfl rfl) ?_
                                          refine Eq.trans (jr_if0 jF_232_10 (by decide +kernel)) ?_
                                          refine Eq.trans (jr_s (pc2 := 14) (lv2 := [(0, .long 12), (2, .long 0), (4, .long 17)]) (st2 := [.int 1]) jF_232_13 rfl rfl) ?_
                                          refine Eq.trans (jr_s (pc2 := 18) (lv2 := [(0, .long 12), (2, .long 0), (4, .long 17)]) (st2 := [.int 1]) jF_232_14 rfl rfl) ?_
                                          exact jr_ri jF_232_18 rfl
                                        refine Eq.trans (jr_if0 jF_267_9 (by decide +kernel)) ?_
                                        refine Eq.trans (jr_s (pc2 := 13) (lv2 := [(0, .ref 117), (1, .int 12)]) (st2 := [.ref 117]) jF_267_12 rfl rfl) ?_
                                        refine Eq.trans (jr_gf (v := .ref 138) jF_267_13 (by decide +kernel)) ?_
                                        refine Eq.trans (jr_s (pc2 := 18) (lv2 := [(0, .ref 117), (1, .int 12)]) (st2 := [.int 18, .ref 138]) jF_267_16 rfl rfl) ?_
                                        refine Eq.trans (jr_s (pc2 := 19) (lv2 := [(0, .ref 117), (1, .int 12)]) (st2 := [.int 12, .int 18, .ref 138]) jF_267_18 rfl rfl) ?_
                                        refine Eq.trans (jr_s (pc2 := 20) (lv2 := [(0, .ref 117), (1, .int 12)]) (st2 := [.int 30, .ref 138]) jF_267_19 rfl rfl) ?_
                                        refine Eq.trans (jr_ldl (v := .long 0) jF_267_20 (by decide +kernel)) ?_
                                        exact jr_rl jF_267_21
                                      refine Eq.trans (jr_s (pc2 := 6) (lv2 := [(3, .long 0), (0, .ref 117), (1, .int 12), (2, .int a2)]) (st2 := []) jF_266_5 rfl rfl) ?_
                                      refine Eq.trans (jr_s (pc2 := 7) (lv2 := [(3, .long 0), (0, .ref 117), (1, .int 12), (2, .int a2)]) (st2 := [.long 0]) jF_266_6 rfl rfl) ?_
                                      refine Eq.trans (jr_s (pc2 := 8) (lv2 := [(3, .long 0), (0, .ref 117), (1, .int 12), (2, .int a2)]) (st2 := [.long 0, .long 0]) jF_266_7 rfl rfl) ?_
                                      refine Eq.trans (jr_s (pc2 := 9) (lv2 := [(3, .long 0), (0, .ref 117), (1, .int 12), (2, .int a2)]) (st2 := [.int 0]) jF_266_8 rfl rfl) ?_
                                      refine Eq.trans (jr_if1 jF_266_9 (by decide +kernel)) ?_
                                      refine Eq.trans (jr_s (pc2 := 25) (lv2 := [(3, .long 0), (0, .ref 117), (1, .int 12), (2, .int a2)]) (st2 := [.int (-1)]) jF_266_24 rfl rfl) ?_
                                      exact jr_ri jF_266_25 rfl
                                  · rcases j_ilt a1.toInt 14 with h_a1_14 | h_a1_14
                                    · obtain rfl : a1 = 13 := Int32.toInt_inj.mp (by rw [show (13 : Int32).toInt = 13 from by decide]; omega)
                                      refine ⟨60000, 60000, (-1), jh2, jh2, ?_, ?_, by decide +kernel⟩
                                      · refine Eq.trans (jr_s (pc2 := 1) (lv2 := [(0, .ref 9), (1, .int 13), (2, .int a2)]) (st2 := [.ref 9]) jF_92_0 rfl rfl) ?_
                                        refine Eq.trans (jr_gf (v := .ref 20) jF_92_1 (by decide +kernel)) ?_
                                        refine Eq.trans (jr_s (pc2 := 5) (lv2 := [(0, .ref 9), (1, .int 13), (2, .int a2)]) (st2 := [.int 13, .ref 20]) jF_92_4 rfl rfl) ?_
                                        refine Eq.trans (jr_s (pc2 := 6) (lv2 := [(0, .ref 9), (1, .int 13), (2, .int a2)]) (st2 := [.int a2, .int 13, .ref 20]) jF_92_5 rfl rfl) ?_
                                        refine Eq.trans (jr_cV (a := 20) (as := [.int 13, .int a2]) (rest := []) (v := some (.int (-1))) (hp2 := jh2) (fr2 := 499) (lo2 := 19978) jF_92_6 (by decide +kernel) rfl (show j_cnd 500 20000 499 19978 3 _ _ = true from rfl) ?_) ?_
                                        · refine Eq.trans (jr_s (pc2 := 1) (lv2 := [(0, .ref 20), (1, .int 13), (2, .int a2)]) (st2 := [.int 13]) jF_93_0 rfl rfl) ?_
                                          refine Eq.trans (jr_if0 jF_93_1 (by decide +kernel)) ?_
                                          refine Eq.trans (jr_s (pc2 := 5) (lv2 := [(0, .ref 20), (1, .int 13), (2, .int a2)]) (st2 := [.int 13]) jF_93_4 rfl rfl) ?_
                                          refine Eq.trans (jr_s (pc2 := 6) (lv2 := [(0, .ref 20), (1, .int 13), (2, .int a2)]) (st2 := [.ref 20, .int 13]) jF_93_5 rfl rfl) ?_
                                          refine Eq.trans (jr_gf (v := .ref 21) jF_93_6 (by decide +kernel)) ?_
                                          refine Eq.trans (jr_al (v := 25) jF_93_9 (by decide +kernel)) ?_
                                          refine Eq.trans (jr_ic0 jF_93_10 (by decide +kernel)) ?_
                                          refine Eq.trans (jr_s (pc2 := 14) (lv2 := [(0, .ref 20), (1, .int 13), (2, .int a2)]) (st2 := [.int a2]) jF_93_13 rfl rfl) ?_
                                          refine Eq.trans (jr_if1 jF_93_14 (jk_lt_lt (show (a2 : Int32).toInt < (0 : Int32).toInt by rw [show (0 : Int32).toInt = 0 from by decide]; omega))) ?_
                                          refine Eq.trans (jr_s (pc2 := 33) (lv2 := [(0, .ref 20), (1, .int 13), (2, .int a2)]) (st2 := [.int (-1)]) jF_93_32 rfl rfl) ?_
                                          exact jr_ri jF_93_33 rfl
                                        exact jr_ri jF_92_9 rfl
                                      · refine Eq.trans (jr_s (pc2 := 1) (lv2 := [(0, .ref 117), (1, .int 13), (2, .int a2)]) (st2 := [.ref 117]) jF_266_0 rfl rfl) ?_
                                        refine Eq.trans (jr_s (pc2 := 2) (lv2 := [(0, .ref 117), (1, .int 13), (2, .int a2)]) (st2 := [.int 13, .ref 117]) jF_266_1 rfl rfl) ?_
                                        refine Eq.trans (jr_cV (a := 117) (as := [.int 13]) (rest := []) (v := some (.long 0)) (hp2 := jh2) (fr2 := 499) (lo2 := 19979) jF_266_2 (by decide +kernel) rfl (show j_cnd 500 20000 499 19979 2 _ _ = true from rfl) ?_) ?_
                                        · refine Eq.trans (jr_s (pc2 := 1) (lv2 := [(0, .ref 117), (1, .int 13)]) (st2 := [.int 13]) jF_267_0 rfl rfl) ?_
                                          refine Eq.trans (jr_s (pc2 := 2) (lv2 := [(0, .ref 117), (1, .int 13)]) (st2 := [.long 13]) jF_267_1 rfl rfl) ?_
                                          refine Eq.trans (jr_s (pc2 := 3) (lv2 := [(0, .ref 117), (1, .int 13)]) (st2 := [.long 0, .long 13]) jF_267_2 rfl rfl) ?_
                                          refine Eq.trans (jr_s (pc2 := 6) (lv2 := [(0, .ref 117), (1, .int 13)]) (st2 := [.long 17, .long 0, .long 13]) jF_267_3 rfl rfl) ?_
                                          refine Eq.trans (jr_cS (as := [.long 13, .long 0, .long 17]) (rest := []) (v := some (.int 1)) (hp2 := jh2) (fr2 := 498) (lo2 := 19954) jF_267_6 rfl (show j_cnd 499 19979 498 19954 6 _ _ = true from rfl) ?_) ?_
                                          · refine Eq.trans (jr_s (pc2 := 1) (lv2 := [(0, .long 13), (2, .long 0), (4, .long 17)]) (st2 := [.long 13]) jF_232_0 rfl rfl) ?_
                                            refine Eq.trans (jr_s (pc2 := 2) (lv2 := [(0, .long 13), (2, .long 0), (4, .long 17)]) (st2 := [.long 0, .long 13]) jF_232_1 rfl rfl) ?_
                                            refine Eq.trans (jr_s (pc2 := 3) (lv2 := [(0, .long 13), (2, .long 0), (4, .long 17)]) (st2 := [.int 1]) jF_232_2 rfl rfl) ?_
                                            refine Eq.trans (jr_if0 jF_232_3 (by decide +kernel)) ?_
                                            refine Eq.trans (jr_s (pc2 := 7) (lv2 := [(0, .long 13), (2, .long 0), (4, .long 17)]) (st2 := [.long 13]) jF_232_6 rfl rfl) ?_
                                            refine Eq.trans (jr_s (pc2 := 9) (lv2 := [(0, .long 13), (2, .long 0), (4, .long 17)]) (st2 := [.long 17, .long 13]) jF_232_7 rfl rfl) ?_
                                            refine Eq.trans (jr_s (pc2 := 10) (lv2 := [(0, .long 13), (2, .long 0), (4, .long 17)]) (st2 := [.int (-1)]) jF_232_9 rfl rfl) ?_
                                            refine Eq.trans (jr_if0 jF_232_10 (by decide +kernel)) ?_
                                            refine Eq.trans (jr_s (pc2 := 14) (lv2 := [(0, .long 13), (2, .long 0), (4, .long 17)]) (st2 := [.int 1]) jF_232_13 rfl rfl) ?_
                                            refine Eq.trans (jr_s (pc2 := 18) (lv2 := [(0, .long 13), (2, .long 0), (4, .long 17)]) (st2 := [.int 1]) jF_232_14 rfl rfl) ?_
                                            exact jr_ri jF_232_18 rfl
                                          refine Eq.trans (jr_if0 jF_267_9 (by decide +kernel)) ?_
                                          refine Eq.trans (jr_s (pc2 := 13) (lv2 := [(0, .ref 117), (1, .int 13)]) (st2 := [.ref 117]) jF_267_12 rfl rfl) ?_
                                          refine Eq.trans (jr_gf (v := .ref 138) jF_267_13 (by decide +kernel)) ?_
                                          refine Eq.trans (jr_s (pc2 := 18) (lv2 := [(0, .ref 117), (1, .int 13)]) (st2 := [.int 18, .ref 138]) jF_267_16 rfl rfl) ?_
                                          refine Eq.trans (jr_s (pc2 := 19) (lv2 := [(0, .ref 117), (1, .int 13)]) (st2 := [.int 13, .int 18, .ref 138]) jF_267_18 rfl rfl) ?_
                                          refine Eq.trans (jr_s (pc2 := 20) (lv2 := [(0, .ref 117), (1, .int 13)]) (st2 := [.int 31, .ref 138]) jF_267_19 rfl rfl) ?_
                                          refine Eq.trans (jr_ldl (v := .long 0) jF_267_20 (by decide +kernel)) ?_
                                          exact jr_rl jF_267_21
                                        refine Eq.trans (jr_s (pc2 := 6) (lv2 := [(3, .long 0), (0, .ref 117), (1, .int 13), (2, .int a2)]) (st2 := []) jF_266_5 rfl rfl) ?_
                                        refine Eq.trans (jr_s (pc2 := 7) (lv2 := [(3, .long 0), (0, .ref 117), (1, .int 13), (2, .int a2)]) (st2 := [.long 0]) jF_266_6 rfl rfl) ?_
                                        refine Eq.trans (jr_s (pc2 := 8) (lv2 := [(3, .long 0), (0, .ref 117), (1, .int 13), (2, .int a2)]) (st2 := [.long 0, .long 0]) jF_266_7 rfl rfl) ?_
                                        refine Eq.trans (jr_s (pc2 := 9) (lv2 := [(3, .long 0), (0, .ref 117), (1, .int 13), (2, .int a2)]) (st2 := [.int 0]) jF_266_8 rfl rfl) ?_
                                        refine Eq.trans (jr_if1 jF_266_9 (by decide +kernel)) ?_
                                        refine Eq.trans (jr_s (pc2 := 25) (lv2 := [(3, .long 0), (0, .ref 117), (1, .int 13), (2, .int a2)]) (st2 := [.int (-1)]) jF_266_24 rfl rfl) ?_
                                        exact jr_ri jF_266_25 rfl
                                    · rcases j_ilt a1.toInt 15 with h_a1_15 | h_a1_15
                                      · obtain rfl : a1 = 14 := Int32.toInt_inj.mp (by rw [show (14 : Int32).toInt = 14 from by decide]; omega)
                                        refine ⟨60000, 60000, (-1), jh2, jh2, ?_, ?_, by decide +kernel⟩
                                        · refine Eq.trans (jr_s (pc2 := 1) (lv2 := [(0, .ref 9), (1, .int 14), (2, .int a2)]) (st2 := [.ref 9]) jF_92_0 rfl rfl) ?_
                                          refine Eq.trans (jr_gf (v := .ref 20) jF_92_1 (by decide +kernel)) ?_
                                          refine Eq.trans (jr_s (pc2 := 5) (lv2 := [(0, .ref 9), (1, .int 14), (2, .int a2)]) (st2 := [.int 14, .ref 20]) jF_92_4 rfl rfl) ?_
                                          refine Eq.trans (jr_s (pc2 := 6) (lv2 := [(0, .ref 9), (1, .int 14), (2, .int a2)]) (st2 := [.int a2, .int 14, .ref 20]) jF_92_5 rfl rfl) ?_
                                          refine Eq.trans (jr_cV (a := 20) (as := [.int 14, .int a2]) (rest := []) (v := some (.int (-1))) (hp2 := jh2) (fr2 := 499) (lo2 := 19978) jF_92_6 (by decide +kernel) rfl (show j_cnd 500 20000 499 19978 3 _ _ = true from rfl) ?_) ?_
                                          · refine Eq.trans (jr_s (pc2 := 1) (lv2 := [(0, .ref 20), (1, .int 14), (2, .int a2)]) (st2 := [.int 14]) jF_93_0 rfl rfl) ?_
                                            refine Eq.trans (jr_if0 jF_93_1 (by decide +kernel)) ?_
                                            refine Eq.trans (jr_s (pc2 := 5) (lv2 := [(0, .ref 20), (1, .int 14), (2, .int a2)]) (st2 := [.int 14]) jF_93_4 rfl rfl) ?_
                                            refine Eq.trans (jr_s (pc2 := 6) (lv2 := [(0, .ref 20), (1, .int 14), (2, .int a2)]) (st2 := [.ref 20, .int 14]) jF_93_5 rfl rfl) ?_
                                            refine Eq.trans (jr_gf (v := .ref 21) jF_93_6 (by decide +kernel)) ?_
                                            refine Eq.trans (jr_al (v := 25) jF_93_9 (by decide +kernel)) ?_
                                            refine Eq.trans (jr_ic0 jF_93_10 (by decide +kernel)) ?_
                                            refine Eq.trans (jr_s (pc2 := 14) (lv2 := [(0, .ref 20), (1, .int 14), (2, .int a2)]) (st2 := [.int a2]) jF_93_13 rfl rfl) ?_
                                            refine Eq.trans (jr_if1 jF_93_14 (jk_lt_lt (show (a2 : Int32).toInt < (0 : Int32).toInt by rw [show (0 : Int32).toInt = 0 from by decide]; omega))) ?_
                                            refine Eq.trans (jr_s (pc2 := 33) (lv2 := [(0, .ref 20), (1, .int 14), (2, .int a2)]) (st2 := [.int (-1)]) jF_93_32 rfl rfl) ?_
                                            exact jr_ri jF_93_33 rfl
                                          exact jr_ri jF_92_9 rfl
                                        · refine Eq.trans (jr_s (pc2 := 1) (lv2 := [(0, .ref 117), (1, .int 14), (2, .int a2)]) (st2 := [.ref 117]) jF_266_0 rfl rfl) ?_
                                          refine Eq.trans (jr_s (pc2 := 2) (lv2 := [(0, .ref 117), (1, .int 14), (2, .int a2)]) (st2 := [.int 14, .ref 117]) jF_266_1 rfl rfl) ?_
                                          refine Eq.trans (jr_cV (a := 117) (as := [.int 14]) (rest := []) (v := some (.long 0)) (hp2 := jh2) (fr2 := 499) (lo2 := 19979) jF_266_2 (by decide +kernel) rfl (show j_cnd 500 20000 499 19979 2 _ _ = true from rfl) ?_) ?_
                                          · refine Eq.trans (jr_s (pc2 := 1) (lv2 := [(0, .ref 117), (1, .int 14)]) (st2 := [.int 14]) jF_267_0 rfl rfl) ?_
                                            refine Eq.trans (jr_s (pc2 := 2) (lv2 := [(0, .ref 117), (1, .int 14)]) (st2 := [.long 14]) jF_267_1 rfl rfl) ?_
                                            refine Eq.trans (jr_s (pc2 := 3) (lv2 := [(0, .ref 117), (1, .int 14)]) (st2 := [.long 0, .long 14]) jF_267_2 rfl rfl) ?_
                                            refine Eq.trans (jr_s (pc2 := 6) (lv2 := [(0, .ref 117), (1, .int 14)]) (st2 := [.long 17, .long 0, .long 14]) jF_267_3 rfl rfl) ?_
                                            refine Eq.trans (jr_cS (as := [.long 14, .long 0, .long 17]) (rest := []) (v := some (.int 1)) (hp2 := jh2) (fr2 := 498) (lo2 := 19954) jF_267_6 rfl (show j_cnd 499 19979 498 19954 6 _ _ = true from rfl) ?_) ?_
                                            · refine Eq.trans (jr_s (pc2 := 1) (lv2 := [(0, .long 14), (2, .long 0), (4, .long 17)]) (st2 := [.long 14]) jF_232_0 rfl rfl) ?_
                                              refine Eq.trans (jr_s (pc2 := 2) (lv2 := [(0, .long 14), (2, .long 0), (4, .long 17)]) (st2 := [.long 0, .long 14]) jF_232_1 rfl rfl) ?_
                                              refine Eq.trans (jr_s (pc2 := 3) (lv2 := [(0, .long 14), (2, .long 0), (4, .long 17)]) (st2 := [.int 1]) jF_232_2 rfl rfl) ?_
                                              refine Eq.trans (jr_if0 jF_232_3 (by decide +kernel)) ?_
                                              refine Eq.trans (jr_s (pc2 := 7) (lv2 := [(0, .long 14), (2, .long 0), (4, .long 17)]) (st2 := [.long 14]) jF_232_6 rfl rfl) ?_
                                              refine Eq.trans (jr_s (pc2 := 9) (lv2 := [(0, .long 14), (2, .long 0), (4, .long 17)]) (st2 := [.long 17, .long 14]) jF_232_7 rfl rfl) ?_
                                              refine Eq.trans (jr_s (pc2 := 10) (lv2 := [(0, .long 14), (2, .long 0), (4, .long 17)]) (st2 := [.int (-1)]) jF_232_9 rfl rfl) ?_
                                              refine Eq.trans (jr_if0 jF_232_10 (by decide +kernel)) ?_
                                              refine Eq.trans (jr_s (pc2 := 14) (lv2 := [(0, .long 14), (2, .long 0), (4, .long 17)]) (st2 := [.int 1]) jF_232_13 rfl rfl) ?_
                                              refine Eq.trans (jr_s (pc2 := 18) (lv2 := [(0, .long 14), (2, .long 0), (4, .long 17)]) (st2 := [.int 1]) jF_232_14 rfl rfl) ?_
                                              exact jr_ri jF_232_18 rfl
                                            refine Eq.trans (jr_if0 jF_267_9 (by decide +kernel)) ?_
                                            refine Eq.trans (jr_s (pc2 := 13) (lv2 := [(0, .ref 117), (1, .int 14)]) (st2 := [.ref 117]) jF_267_12 rfl rfl) ?_
                                            refine Eq.trans (jr_gf (v := .ref 138) jF_267_13 (by decide +kernel)) ?_
                                            refine Eq.trans (jr_s (pc2 := 18) (lv2 := [(0, .ref 117), (1, .int 14)]) (st2 := [.int 18, .ref 138]) jF_267_16 rfl rfl) ?_
                                            refine Eq.trans (jr_s (pc2 := 19) (lv2 := [(0, .ref 117), (1, .int 14)]) (st2 := [.int 14, .int 18, .ref 138]) jF_267_18 rfl rfl) ?_
                                            refine Eq.trans (jr_s (pc2 := 20) (lv2 := [(0, .ref 117), (1, .int 14)]) (st2 := [.int 32, .ref 138]) jF_267_19 rfl rfl) ?_
                                            refine Eq.trans (jr_ldl (v := .long 0) jF_267_20 (by decide +kernel)) ?_
                                            exact jr_rl jF_267_21
                                          refine Eq.trans (jr_s (pc2 := 6) (lv2 := [(3, .long 0), (0, .ref 117), (1, .int 14), (2, .int a2)]) (st2 := []) jF_266_5 rfl rfl) ?_
                                          refine Eq.trans (jr_s (pc2 := 7) (lv2 := [(3, .long 0), (0, .ref 117), (1, .int 14), (2, .int a2)]) (st2 := [.long 0]) jF_266_6 rfl rfl) ?_
                                          refine Eq.trans (jr_s (pc2 := 8) (lv2 := [(3, .long 0), (0, .ref 117), (1, .int 14), (2, .int a2)]) (st2 := [.long 0, .long 0]) jF_266_7 rfl rfl) ?_
                                          refine Eq.trans (jr_s (pc2 := 9) (lv2 := [(3, .long 0), (0, .ref 117), (1, .int 14), (2, .int a2)]) (st2 := [.int 0]) jF_266_8 rfl rfl) ?_
                                          refine Eq.trans (jr_if1 jF_266_9 (by decide +kernel)) ?_
                                          refine Eq.trans (jr_s (pc2 := 25) (lv2 := [(3, .long 0), (0, .ref 117), (1, .int 14), (2, .int a2)]) (st2 := [.int (-1)]) jF_266_24 rfl rfl) ?_
                                          exact jr_ri jF_266_25 rfl
                                      · rcases j_ilt a1.toInt 16 with h_a1_16 | h_a1_16
                                        · obtain rfl : a1 = 15 := Int32.toInt_inj.mp (by rw [show (15 : Int32).toInt = 15 from by decide]; omega)
                                          refine ⟨60000, 60000, (-1), jh2, jh2, ?_, ?_, by decide +kernel⟩
                                          · refine Eq.trans (jr_s (pc2 := 1) (lv2 := [(0, .ref 9), (1, .int 15), (2, .int a2)]) (st2 := [.ref 9]) jF_92_0 rfl rfl) ?_
                                            refine Eq.trans (jr_gf (v := .ref 20) jF_92_1 (by decide +kernel)) ?_
                                            refine Eq.trans (jr_s (pc2 := 5) (lv2 := [(0, .ref 9), (1, .int 15), (2, .int a2)]) (st2 := [.int 15, .ref 20]) jF_92_4 rfl rfl) ?_
                                            refine Eq.trans (jr_s (pc2 := 6) (lv2 := [(0, .ref 9), (1, .int 15), (2, .int a2)]) (st2 := [.int a2, .int 15, .ref 20]) jF_92_5 rfl rfl) ?_
                                            refine Eq.trans (jr_cV (a := 20) (as := [.int 15, .int a2]) (rest := []) (v := some (.int (-1))) (hp2 := jh2) (fr2 := 499) (lo2 := 19978) jF_92_6 (by decide +kernel) rfl (show j_cnd 500 20000 499 19978 3 _ _ = true from rfl) ?_) ?_
                                            · refine Eq.trans (jr_s (pc2 := 1) (lv2 := [(0, .ref 20), (1, .int 15), (2, .int a2)]) (st2 := [.int 15]) jF_93_0 rfl rfl) ?_
                                              refine Eq.trans (jr_if0 jF_93_1 (by decide +kernel)) ?_
                                              refine Eq.trans (jr_s (pc2 := 5) (lv2 := [(0, .ref 20), (1, .int 15), (2, .int a2)]) (st2 := [.int 15]) jF_93_4 rfl rfl) ?_
                                              refine Eq.trans (jr_s (pc2 := 6) (lv2 := [(0, .ref 20), (1, .int 15), (2, .int a2)]) (st2 := [.ref 20, .int 15]) jF_93_5 rfl rfl) ?_
                                              refine Eq.trans (jr_gf (v := .ref 21) jF_93_6 (by decide +kernel)) ?_
                                              refine Eq.trans (jr_al (v := 25) jF_93_9 (by decide +kernel)) ?_
                                              refine Eq.trans (jr_ic0 jF_93_10 (by decide +kernel)) ?_
                                              refine Eq.trans (jr_s (pc2 := 14) (lv2 := [(0, .ref 20), (1, .int 15), (2, .int a2)]) (st2 := [.int a2]) jF_93_13 rfl rfl) ?_
                                              refine Eq.trans (jr_if1 jF_93_14 (jk_lt_lt (show (a2 : Int32).toInt < (0 : Int32).toInt by rw [show (0 : Int32).toInt = 0 from by decide]; omega))) ?_
                                              refine Eq.trans (jr_s (pc2 := 33) (lv2 := [(0, .ref 20), (1, .int 15), (2, .int a2)]) (st2 := [.int (-1)]) jF_93_32 rfl rfl) ?_
                                              exact jr_ri jF_93_33 rfl
                                            exact jr_ri jF_92_9 rfl
                                          · refine Eq.trans (jr_s (pc2 := 1) (lv2 := [(0, .ref 117), (1, .int 15), (2, .int a2)]) (st2 := [.ref 117]) jF_266_0 rfl rfl) ?_
                                            refine Eq.trans (jr_s (pc2 := 2) (lv2 := [(0, .ref 117), (1, .int 15), (2, .int a2)]) (st2 := [.int 15, .ref 117]) jF_266_1 rfl rfl) ?_
                                            refine Eq.trans (jr_cV (a := 117) (as := [.int 15]) (rest := []) (v := some (.long 0)) (hp2 := jh2) (fr2 := 499) (lo2 := 19979) jF_266_2 (by decide +kernel) rfl (show j_cnd 500 20000 499 19979 2 _ _ = true from rfl) ?_) ?_
                                            · refine Eq.trans (jr_s (pc2 := 1) (lv2 := [(0, .ref 117), (1, .int 15)]) (st2 := [.int 15]) jF_267_0 rfl rfl) ?_
                                              refine Eq.trans (jr_s (pc2 := 2) (lv2 := [(0, .ref 117), (1, .int 15)]) (st2 := [.long 15]) jF_267_1 rfl rfl) ?_
                                              refine Eq.trans (jr_s (pc2 := 3) (lv2 := [(0, .ref 117), (1, .int 15)]) (st2 := [.long 0, .long 15]) jF_267_2 rfl rfl) ?_
                                              refine Eq.trans (jr_s (pc2 := 6) (lv2 := [(0, .ref 117), (1, .int 15)]) (st2 := [.long 17, .long 0, .long 15]) jF_267_3 rfl rfl) ?_
                                              refine Eq.trans (jr_cS (as := [.long 15, .long 0, .long 17]) (rest := []) (v := some (.int 1)) (hp2 := jh2) (fr2 := 498) (lo2 := 19954) jF_267_6 rfl (show j_cnd 499 19979 498 19954 6 _ _ = true from rfl) ?_) ?_
                                              · refine Eq.trans (jr_s (pc2 := 1) (lv2 := [(0, .long 15), (2, .long 0), (4, .long 17)]) (st2 := [.long 15]) jF_232_0 rfl rfl) ?_
                                                refine Eq.trans (jr_s (pc2 := 2) (lv2 := [(0, .long 15), (2, .long 0), (4, .long 17)]) (st2 := [.long 0, .long 15]) jF_232_1 rfl rfl) ?_
                                                refine Eq.trans (jr_s (pc2 := 3) (lv2 := [(0, .long 15), (2, .long 0), (4, .long 17)]) (st2 := [.int 1]) jF_232_2 rfl rfl) ?_
                                                refine Eq.trans (jr_if0 jF_232_3 (by decide +kernel)) ?_
                                                refine Eq.trans (jr_s (pc2 := 7) (lv2 := [(0, .long 15), (2, .long 0), (4, .long 17)]) (st2 := [.long 15]) jF_232_6 rfl rfl) ?_
                                                refine Eq.trans (jr_s (pc2 := 9) (lv2 := [(0, .long 15), (2, .long 0), (4, .long 17)]) (st2 := [.long 17, .long 15]) jF_232_7 rfl rfl) ?_
                                                refine Eq.trans (jr_s (pc2 := 10) (lv2 := [(0, .long 15), (2, .long 0), (4, .long 17)]) (st2 := [.int (-1)]) jF_232_9 rfl rfl) ?_
                                                refine Eq.trans (jr_if0 jF_232_10 (by decide +kernel)) ?_
                                                refine Eq.trans (jr_s (pc2 := 14) (lv2 := [(0, .long 15), (2, .long 0), (4, .long 17)]) (st2 := [.int 1]) jF_232_13 rfl rfl) ?_
                                                refine Eq.trans (jr_s (pc2 := 18) (lv2 := [(0, .long 15), (2, .long 0), (4, .long 17)]) (st2 := [.int 1]) jF_232_14 rfl rfl) ?_
                                                exact jr_ri jF_232_18 rfl
                                              refine Eq.trans (jr_if0 jF_267_9 (by decide +kernel)) ?_
                                              refine Eq.trans (jr_s (pc2 := 13) (lv2 := [(0, .ref 117), (1, .int 15)]) (st2 := [.ref 117]) jF_267_12 rfl rfl) ?_
                                              refine Eq.trans (jr_gf (v := .ref 138) jF_267_13 (by decide +kernel)) ?_
                                              refine Eq.trans (jr_s (pc2 := 18) (lv2 := [(0, .ref 117), (1, .int 15)]) (st2 := [.int 18, .ref 138]) jF_267_16 rfl rfl) ?_
                                              refine Eq.trans (jr_s (pc2 := 19) (lv2 := [(0, .ref 117), (1, .int 15)]) (st2 := [.int 15, .int 18, .ref 138]) jF_267_18 rfl rfl) ?_
                                              refine Eq.trans (jr_s (pc2 := 20) (lv2 := [(0, .ref 117), (1, .int 15)]) (st2 := [.int 33, .ref 138]) jF_267_19 rfl rfl) ?_
                                              refine Eq.trans (jr_ldl (v := .long 0) jF_267_20 (by decide +kernel)) ?_
                                              exact jr_rl jF_267_21
                                            refine Eq.trans (jr_s (pc2 := 6) (lv2 := [(3, .long 0), (0, .ref 117), (1, .int 15), (2, .int a2)]) (st2 := []) jF_266_5 rfl rfl) ?_
                                            refine Eq.trans (jr_s (pc2 := 7) (lv2 := [(3, .long 0), (0, .ref 117), (1, .int 15), (2, .int a2)]) (st2 := [.long 0]) jF_266_6 rfl rfl) ?_
                                            refine Eq.trans (jr_s (pc2 := 8) (lv2 := [(3, .long 0), (0, .ref 117), (1, .int 15), (2, .int a2)]) (st2 := [.long 0, .long 0]) jF_266_7 rfl rfl) ?_
                                            refine Eq.trans (jr_s (pc2 := 9) (lv2 := [(3, .long 0), (0, .ref 117), (1, .int 15), (2, .int a2)]) (st2 := [.int 0]) jF_266_8 rfl rfl) ?_
                                            refine Eq.trans (jr_if1 jF_266_9 (by decide +kernel)) ?_
                                            refine Eq.trans (jr_s (pc2 := 25) (lv2 := [(3, .long 0), (0, .ref 117), (1, .int 15), (2, .int a2)]) (st2 := [.int (-1)]) jF_266_24 rfl rfl) ?_
                                            exact jr_ri jF_266_25 rfl
                                        · rcases j_ilt a1.toInt 17 with h_a1_17 | h_a1_17
                                          · obtain rfl : a1 = 16 := Int32.toInt_inj.mp (by rw [show (16 : Int32).toInt = 16 from by decide]; omega)
                                            refine ⟨60000, 60000, (-1), jh2, jh2, ?_, ?_, by decide +kernel⟩
                                            · refine Eq.trans (jr_s (pc2 := 1) (lv2 := [(0, .ref 9), (1, .int 16), (2, .int a2)]) (st2 := [.ref 9]) jF_92_0 rfl rfl) ?_
                                              refine Eq.trans (jr_gf (v := .ref 20) jF_92_1 (by decide +kernel)) ?_
                                              refine Eq.trans (jr_s (pc2 := 5) (lv2 := [(0, .ref 9), (1, .int 16), (2, .int a2)]) (st2 := [.int 16, .ref 20]) jF_92_4 rfl rfl) ?_
                                              refine Eq.trans (jr_s (pc2 := 6) (lv2 := [(0, .ref 9), (1, .int 16), (2, .int a2)]) (st2 := [.int a2, .int 16, .ref 20]) jF_92_5 rfl rfl) ?_
                                              refine Eq.trans (jr_cV (a := 20) (as := [.int 16, .int a2]) (rest := []) (v := some (.int (-1))) (hp2 := jh2) (fr2 := 499) (lo2 := 19978) jF_92_6 (by decide +kernel) rfl (show j_cnd 500 20000 499 19978 3 _ _ = true from rfl) ?_) ?_
                                              · refine Eq.trans (jr_s (pc2 := 1) (lv2 := [(0, .ref 20), (1, .int 16), (2, .int a2)]) (st2 := [.int 16]) jF_93_0 rfl rfl) ?_
                                                refine Eq.trans (jr_if0 jF_93_1 (by decide +kernel)) ?_
                                                refine Eq.trans (jr_s (pc2 := 5) (lv2 := [(0, .ref 20), (1, .int 16), (2, .int a2)]) (st2 := [.int 16]) jF_93_4 rfl rfl) ?_
                                                refine Eq.trans (jr_s (pc2 := 6) (lv2 := [(0, .ref 20), (1, .int 16), (2, .int a2)]) (st2 := [.ref 20, .int 16]) jF_93_5 rfl rfl) ?_
                                                refine Eq.trans (jr_gf (v := .ref 21) jF_93_6 (by decide +kernel)) ?_
                                                refine Eq.trans (jr_al (v := 25) jF_93_9 (by decide +kernel)) ?_
                                                refine Eq.trans (jr_ic0 jF_93_10 (by decide +kernel)) ?_
                                                refine Eq.trans (jr_s (pc2 := 14) (lv2 := [(0, .ref 20), (1, .int 16), (2, .int a2)]) (st2 := [.int a2]) jF_93_13 rfl rfl) ?_
                                                refine Eq.trans (jr_if1 jF_93_14 (jk_lt_lt (show (a2 : Int32).toInt < (0 : Int32).toInt by rw [show (0 : Int32).toInt = 0 from by decide]; omega))) ?_
                                                refine Eq.trans (jr_s (pc2 := 33) (lv2 := [(0, .ref 20), (1, .int 16), (2, .int a2)]) (st2 := [.int (-1)]) jF_93_32 rfl rfl) ?_
                                                exact jr_ri jF_93_33 rfl
                                              exact jr_ri jF_92_9 rfl
                                            · refine Eq.trans (jr_s (pc2 := 1) (lv2 := [(0, .ref 117), (1, .int 16), (2, .int a2)]) (st2 := [.ref 117]) jF_266_0 rfl rfl) ?_
                                              refine Eq.trans (jr_s (pc2 := 2) (lv2 := [(0, .ref 117), (1, .int 16), (2, .int a2)]) (st2 := [.int 16, .ref 117]) jF_266_1 rfl rfl) ?_
                                              refine Eq.trans (jr_cV (a := 117) (as := [.int 16]) (rest := []) (v := some (.long 0)) (hp2 := jh2) (fr2 := 499) (lo2 := 19979) jF_266_2 (by decide +kernel) rfl (show j_cnd 500 20000 499 19979 2 _ _ = true from rfl) ?_) ?_
                                              · refine Eq.trans (jr_s (pc2 := 1) (lv2 := [(0, .ref 117), (1, .int 16)]) (st2 := [.int 16]) jF_267_0 rfl rfl) ?_
                                                refine Eq.trans (jr_s (pc2 := 2) (lv2 := [(0, .ref 117), (1, .int 16)]) (st2 := [.long 16]) jF_267_1 rfl rfl) ?_
                                                refine Eq.trans (jr_s (pc2 := 3) (lv2 := [(0, .ref 117), (1, .int 16)]) (st2 := [.long 0, .long 16]) jF_267_2 rfl rfl) ?_
                                                refine Eq.trans (jr_s (pc2 := 6) (lv2 := [(0, .ref 117), (1, .int 16)]) (st2 := [.long 17, .long 0, .long 16]) jF_267_3 rfl rfl) ?_
                                                refine Eq.trans (jr_cS (as := [.long 16, .long 0, .long 17]) (rest := []) (v := some (.int 1)) (hp2 := jh2) (fr2 := 498) (lo2 := 19954) jF_267_6 rfl (show j_cnd 499 19979 498 19954 6 _ _ = true from rfl) ?_) ?_
                                                · refine Eq.trans (jr_s (pc2 := 1) (lv2 := [(0, .long 16), (2, .long 0), (4, .long 17)]) (st2 := [.long 16]) jF_232_0 rfl rfl) ?_
                                                  refine Eq.trans (jr_s (pc2 := 2) (lv2 := [(0, .long 16), (2, .long 0), (4, .long 17)]) (st2 := [.long 0, .long 16]) jF_232_1 rfl rfl) ?_
                                                  refine Eq.trans (jr_s (pc2 := 3) (lv2 := [(0, .long 16), (2, .long 0), (4, .long 17)]) (st2 := [.int 1]) jF_232_2 rfl rfl) ?_
                                                  refine Eq.trans (jr_if0 jF_232_3 (by decide +kernel)) ?_
                                                  refine Eq.trans (jr_s (pc2 := 7) (lv2 := [(0, .long 16), (2, .long 0), (4, .long 17)]) (st2 := [.long 16]) jF_232_6 rfl rfl) ?_
                                                  refine Eq.trans (jr_s (pc2 := 9) (lv2 := [(0, .long 16), (2, .long 0), (4, .long 17)]) (st2 := [.long 17, .long 16]) jF_232_7 rfl rfl) ?_
                                                  refine Eq.trans (jr_s (pc2 := 10) (lv2 := [(0, .long 16), (2, .long 0), (4, .long 17)]) (st2 := [.int (-1)]) jF_232_9 rfl rfl) ?_
                                                  refine Eq.trans (jr_if0 jF_232_10 (by decide +kernel)) ?_
                                                  refine Eq.trans (jr_s (pc2 := 14) (lv2 := [(0, .long 16), (2, .long 0), (4, .long 17)]) (st2 := [.int 1]) jF_232_13 rfl rfl) ?_
                                                  refine Eq.trans (jr_s (pc2 := 18) (lv2 := [(0, .long 16), (2, .long 0), (4, .long 17)]) (st2 := [.int 1]) jF_232_14 rfl rfl) ?_
                                                  exact jr_ri jF_232_18 rfl
                                                refine Eq.trans (jr_if0 jF_267_9 (by decide +kernel)) ?_
                                                refine Eq.trans (jr_s (pc2 := 13) (lv2 := [(0, .ref 117), (1, .int 16)]) (st2 := [.ref 117]) jF_267_12 rfl rfl) ?_
                                                refine Eq.trans (jr_gf (v := .ref 138) jF_267_13 (by decide +kernel)) ?_
                                                refine Eq.trans (jr_s (pc2 := 18) (lv2 := [(0, .ref 117), (1, .int 16)]) (st2 := [.int 18, .ref 138]) jF_267_16 rfl rfl) ?_
                                                refine Eq.trans (jr_s (pc2 := 19) (lv2 := [(0, .ref 117), (1, .int 16)]) (st2 := [.int 16, .int 18, .ref 138]) jF_267_18 rfl rfl) ?_
                                                refine Eq.trans (jr_s (pc2 := 20) (lv2 := [(0, .ref 117), (1, .int 16)]) (st2 := [.int 34, .ref 138]) jF_267_19 rfl rfl) ?_
                                                refine Eq.trans (jr_ldl (v := .long 0) jF_267_20 (by decide +kernel)) ?_
                                                exact jr_rl jF_267_21
                                              refine Eq.trans (jr_s (pc2 := 6) (lv2 := [(3, .long 0), (0, .ref 117), (1, .int 16), (2, .int a2)]) (st2 := []) jF_266_5 rfl rfl) ?_
                                              refine Eq.trans (jr_s (pc2 := 7) (lv2 := [(3, .long 0), (0, .ref 117), (1, .int 16), (2, .int a2)]) (st2 := [.long 0]) jF_266_6 rfl rfl) ?_
                                              refine Eq.trans (jr_s (pc2 := 8) (lv2 := [(3, .long 0), (0, .ref 117), (1, .int 16), (2, .int a2)]) (st2 := [.long 0, .long 0]) jF_266_7 rfl rfl) ?_
                                              refine Eq.trans (jr_s (pc2 := 9) (lv2 := [(3, .long 0), (0, .ref 117), (1, .int 16), (2, .int a2)]) (st2 := [.int 0]) jF_266_8 rfl rfl) ?_
                                              refine Eq.trans (jr_if1 jF_266_9 (by decide +kernel)) ?_
                                              refine Eq.trans (jr_s (pc2 := 25) (lv2 := [(3, .long 0), (0, .ref 117), (1, .int 16), (2, .int a2)]) (st2 := [.int (-1)]) jF_266_24 rfl rfl) ?_
                                              exact jr_ri jF_266_25 rfl
                                          · obtain rfl : a1 = 17 := Int32.toInt_inj.mp (by rw [show (17 : Int32).toInt = 17 from by decide]; omega)
                                            refine ⟨60000, 60000, (-1), jh2, jh2, ?_, ?_, by decide +kernel⟩
                                            · refine Eq.trans (jr_s (pc2 := 1) (lv2 := [(0, .ref 9), (1, .int 17), (2, .int a2)]) (st2 := [.ref 9]) jF_92_0 rfl rfl) ?_
                                              refine Eq.trans (jr_gf (v := .ref 20) jF_92_1 (by decide +kernel)) ?_
                                              refine Eq.trans (jr_s (pc2 := 5) (lv2 := [(0, .ref 9), (1, .int 17), (2, .int a2)]) (st2 := [.int 17, .ref 20]) jF_92_4 rfl rfl) ?_
                                              refine Eq.trans (jr_s (pc2 := 6) (lv2 := [(0, .ref 9), (1, .int 17), (2, .int a2)]) (st2 := [.int a2, .int 17, .ref 20]) jF_92_5 rfl rfl) ?_
                                              refine Eq.trans (jr_cV (a := 20) (as := [.int 17, .int a2]) (rest := []) (v := some (.int (-1))) (hp2 := jh2) (fr2 := 499) (lo2 := 19978) jF_92_6 (by decide +kernel) rfl (show j_cnd 500 20000 499 19978 3 _ _ = true from rfl) ?_) ?_
                                              · refine Eq.trans (jr_s (pc2 := 1) (lv2 := [(0, .ref 20), (1, .int 17), (2, .int a2)]) (st2 := [.int 17]) jF_93_0 rfl rfl) ?_
                                                refine Eq.trans (jr_if0 jF_93_1 (by decide +kernel)) ?_
                                                refine Eq.trans (jr_s (pc2 := 5) (lv2 := [(0, .ref 20), (1, .int 17), (2, .int a2)]) (st2 := [.int 17]) jF_93_4 rfl rfl) ?_
                                                refine Eq.trans (jr_s (pc2 := 6) (lv2 := [(0, .ref 20), (1, .int 17), (2, .int a2)]) (st2 := [.ref 20, .int 17]) jF_93_5 rfl rfl) ?_
                                                refine Eq.trans (jr_gf (v := .ref 21) jF_93_6 (by decide +kernel)) ?_
                                                refine Eq.trans (jr_al (v := 25) jF_93_9 (by decide +kernel)) ?_
                                                refine Eq.trans (jr_ic0 jF_93_10 (by decide +kernel)) ?_
                                                refine Eq.trans (jr_s (pc2 := 14) (lv2 := [(0, .ref 20), (1, .int 17), (2, .int a2)]) (st2 := [.int a2]) jF_93_13 rfl rfl) ?_
                                                refine Eq.trans (jr_if1 jF_93_14 (jk_lt_lt (show (a2 : Int32).toInt < (0 : Int32).toInt by rw [show (0 : Int32).toInt = 0 from by decide]; omega))) ?_
                                                refine Eq.trans (jr_s (pc2 := 33) (lv2 := [(0, .ref 20), (1, .int 17), (2, .int a2)]) (st2 := [.int (-1)]) jF_93_32 rfl rfl) ?_
                                                exact jr_ri jF_93_33 rfl
                                              exact jr_ri jF_92_9 rfl
                                            · refine Eq.trans (jr_s (pc2 := 1) (lv2 := [(0, .ref 117), (1, .int 17), (2, .int a2)]) (st2 := [.ref 117]) jF_266_0 rfl rfl) ?_
                                              refine Eq.trans (jr_s (pc2 := 2) (lv2 := [(0, .ref 117), (1, .int 17), (2, .int a2)]) (st2 := [.int 17, .ref 117]) jF_266_1 rfl rfl) ?_
                                              refine Eq.trans (jr_cV (a := 117) (as := [.int 17]) (rest := []) (v := some (.long 0)) (hp2 := jh2) (fr2 := 499) (lo2 := 19979) jF_266_2 (by decide +kernel) rfl (show j_cnd 500 20000 499 19979 2 _ _ = true from rfl) ?_) ?_
                                              · refine Eq.trans (jr_s (pc2 := 1) (lv2 := [(0, .ref 117), (1, .int 17)]) (st2 := [.int 17]) jF_267_0 rfl rfl) ?_
                                                refine Eq.trans (jr_s (pc2 := 2) (lv2 := [(0, .ref 117), (1, .int 17)]) (st2 := [.long 17]) jF_267_1 rfl rfl) ?_
                                                refine Eq.trans (jr_s (pc2 := 3) (lv2 := [(0, .ref 117), (1, .int 17)]) (st2 := [.long 0, .long 17]) jF_267_2 rfl rfl) ?_
                                                refine Eq.trans (jr_s (pc2 := 6) (lv2 := [(0, .ref 117), (1, .int 17)]) (st2 := [.long 17, .long 0, .long 17]) jF_267_3 rfl rfl) ?_
                                                refine Eq.trans (jr_cS (as := [.long 17, .long 0, .long 17]) (rest := []) (v := some (.int 1)) (hp2 := jh2) (fr2 := 498) (lo2 := 19954) jF_267_6 rfl (show j_cnd 499 19979 498 19954 6 _ _ = true from rfl) ?_) ?_
                                                · refine Eq.trans (jr_s (pc2 := 1) (lv2 := [(0, .long 17), (2, .long 0), (4, .long 17)]) (st2 := [.long 17]) jF_232_0 rfl rfl) ?_
                                                  refine Eq.trans (jr_s (pc2 := 2) (lv2 := [(0, .long 17), (2, .long 0), (4, .long 17)]) (st2 := [.long 0, .long 17]) jF_232_1 rfl rfl) ?_
                                                  refine Eq.trans (jr_s (pc2 := 3) (lv2 := [(0, .long 17), (2, .long 0), (4, .long 17)]) (st2 := [.int 1]) jF_232_2 rfl rfl) ?_
                                                  refine Eq.trans (jr_if0 jF_232_3 (by decide +kernel)) ?_
                                                  refine Eq.trans (jr_s (pc2 := 7) (lv2 := [(0, .long 17), (2, .long 0), (4, .long 17)]) (st2 := [.long 17]) jF_232_6 rfl rfl) ?_
                                                  refine Eq.trans (jr_s (pc2 := 9) (lv2 := [(0, .long 17), (2, .long 0), (4, .long 17)]) (st2 := [.long 17, .long 17]) jF_232_7 rfl rfl) ?_
                                                  refine Eq.trans (jr_s (pc2 := 10) (lv2 := [(0, .long 17), (2, .long 0), (4, .long 17)]) (st2 := [.int 0]) jF_232_9 rfl rfl) ?_
                                                  refine Eq.trans (jr_if0 jF_232_10 (by decide +kernel)) ?_
                                                  refine Eq.trans (jr_s (pc2 := 14) (lv2 := [(0, .long 17), (2, .long 0), (4, .long 17)]) (st2 := [.int 1]) jF_232_13 rfl rfl) ?_
                                                  refine Eq.trans (jr_s (pc2 := 18) (lv2 := [(0, .long 17), (2, .long 0), (4, .long 17)]) (st2 := [.int 1]) jF_232_14 rfl rfl) ?_
                                                  exact jr_ri jF_232_18 rfl
                                                refine Eq.trans (jr_if0 jF_267_9 (by decide +kernel)) ?_
                                                refine Eq.trans (jr_s (pc2 := 13) (lv2 := [(0, .ref 117), (1, .int 17)]) (st2 := [.ref 117]) jF_267_12 rfl rfl) ?_
                                                refine Eq.trans (jr_gf (v := .ref 138) jF_267_13 (by decide +kernel)) ?_
                                                refine Eq.trans (jr_s (pc2 := 18) (lv2 := [(0, .ref 117), (1, .int 17)]) (st2 := [.int 18, .ref 138]) jF_267_16 rfl rfl) ?_
                                                refine Eq.trans (jr_s (pc2 := 19) (lv2 := [(0, .ref 117), (1, .int 17)]) (st2 := [.int 17, .int 18, .ref 138]) jF_267_18 rfl rfl) ?_
                                                refine Eq.trans (jr_s (pc2 := 20) (lv2 := [(0, .ref 117), (1, .int 17)]) (st2 := [.int 35, .ref 138]) jF_267_19 rfl rfl) ?_
                                                refine Eq.trans (jr_ldl (v := .long 0) jF_267_20 (by decide +kernel)) ?_
                                                exact jr_rl jF_267_21
                                              refine Eq.trans (jr_s (pc2 := 6) (lv2 := [(3, .long 0), (0, .ref 117), (1, .int 17), (2, .int a2)]) (st2 := []) jF_266_5 rfl rfl) ?_
                                              refine Eq.trans (jr_s (pc2 := 7) (lv2 := [(3, .long 0), (0, .ref 117), (1, .int 17), (2, .int a2)]) (st2 := [.long 0]) jF_266_6 rfl rfl) ?_
                                              refine Eq.trans (jr_s (pc2 := 8) (lv2 := [(3, .long 0), (0, .ref 117), (1, .int 17), (2, .int a2)]) (st2 := [.long 0, .long 0]) jF_266_7 rfl rfl) ?_
                                              refine Eq.trans (jr_s (pc2 := 9) (lv2 := [(3, .long 0), (0, .ref 117), (1, .int 17), (2, .int a2)]) (st2 := [.int 0]) jF_266_8 rfl rfl) ?_
                                              refine Eq.trans (jr_if1 jF_266_9 (by decide +kernel)) ?_
                                              refine Eq.trans (jr_s (pc2 := 25) (lv2 := [(3, .long 0), (0, .ref 117), (1, .int 17), (2, .int a2)]) (st2 := [.int (-1)]) jF_266_24 rfl rfl) ?_
                                              exact jr_ri jF_266_25 rfl
        · rcases j_ilt a1.toInt 19 with h_a1_19 | h_a1_19
          · obtain rfl : a1 = 18 := Int32.toInt_inj.mp (by rw [show (18 : Int32).toInt = 18 from by decide]; omega)
            refine ⟨60000, 60000, (-1), jh2, jh2, ?_, ?_, by decide +kernel⟩
            · refine Eq.trans (jr_s (pc2 := 1) (lv2 := [(0, .ref 9), (1, .int 18), (2, .int a2)]) (st2 := [.ref 9]) jF_92_0 rfl rfl) ?_
              refine Eq.trans (jr_gf (v := .ref 20) jF_92_1 (by decide +kernel)) ?_
              refine Eq.trans (jr_s (pc2 := 5) (lv2 := [(0, .ref 9), (1, .int 18), (2, .int a2)]) (st2 := [.int 18, .ref 20]) jF_92_4 rfl rfl) ?_
              refine Eq.trans (jr_s (pc2 := 6) (lv2 := [(0, .ref 9), (1, .int 18), (2, .int a2)]) (st2 := [.int a2, .int 18, .ref 20]) jF_92_5 rfl rfl) ?_
              refine Eq.trans (jr_cV (a := 20) (as := [.int 18, .int a2]) (rest := []) (v := some (.int (-1))) (hp2 := jh2) (fr2 := 499) (lo2 := 19978) jF_92_6 (by decide +kernel) rfl (show j_cnd 500 20000 499 19978 3 _ _ = true from rfl) ?_) ?_
              · refine Eq.trans (jr_s (pc2 := 1) (lv2 := [(0, .ref 20), (1, .int 18), (2, .int a2)]) (st2 := [.int 18]) jF_93_0 rfl rfl) ?_
                refine Eq.trans (jr_if0 jF_93_1 (by decide +kernel)) ?_
                refine Eq.trans (jr_s (pc2 := 5) (lv2 := [(0, .ref 20), (1, .int 18), (2, .int a2)]) (st2 := [.int 18]) jF_93_4 rfl rfl) ?_
                refine Eq.trans (jr_s (pc2 := 6) (lv2 := [(0, .ref 20), (1, .int 18), (2, .int a2)]) (st2 := [.ref 20, .int 18]) jF_93_5 rfl rfl) ?_
                refine Eq.trans (jr_gf (v := .ref 21) jF_93_6 (by decide +kernel)) ?_
                refine Eq.trans (jr_al (v := 25) jF_93_9 (by decide +kernel)) ?_
                refine Eq.trans (jr_ic0 jF_93_10 (by decide +kernel)) ?_
                refine Eq.trans (jr_s (pc2 := 14) (lv2 := [(0, .ref 20), (1, .int 18), (2, .int a2)]) (st2 := [.int a2]) jF_93_13 rfl rfl) ?_
                refine Eq.trans (jr_if1 jF_93_14 (jk_lt_lt (show (a2 : Int32).toInt < (0 : Int32).toInt by rw [show (0 : Int32).toInt = 0 from by decide]; omega))) ?_
                refine Eq.trans (jr_s (pc2 := 33) (lv2 := [(0, .ref 20), (1, .int 18), (2, .int a2)]) (st2 := [.int (-1)]) jF_93_32 rfl rfl) ?_
                exact jr_ri jF_93_33 rfl
              exact jr_ri jF_92_9 rfl
            · refine Eq.trans (jr_s (pc2 := 1) (lv2 := [(0, .ref 117), (1, .int 18), (2, .int a2)]) (st2 := [.ref 117]) jF_266_0 rfl rfl) ?_
              refine Eq.trans (jr_s (pc2 := 2) (lv2 := [(0, .ref 117), (1, .int 18), (2, .int a2)]) (st2 := [.int 18, .ref 117]) jF_266_1 rfl rfl) ?_
              refine Eq.trans (jr_cV (a := 117) (as := [.int 18]) (rest := []) (v := some (.long 0)) (hp2 := jh2) (fr2 := 499) (lo2 := 19979) jF_266_2 (by decide +kernel) rfl (show j_cnd 500 20000 499 19979 2 _ _ = true from rfl) ?_) ?_
              · refine Eq.trans (jr_s (pc2 := 1) (lv2 := [(0, .ref 117), (1, .int 18)]) (st2 := [.int 18]) jF_267_0 rfl rfl) ?_
                refine Eq.trans (jr_s (pc2 := 2) (lv2 := [(0, .ref 117), (1, .int 18)]) (st2 := [.long 18]) jF_267_1 rfl rfl) ?_
                refine Eq.trans (jr_s (pc2 := 3) (lv2 := [(0, .ref 117), (1, .int 18)]) (st2 := [.long 0, .long 18]) jF_267_2 rfl rfl) ?_
                refine Eq.trans (jr_s (pc2 := 6) (lv2 := [(0, .ref 117), (1, .int 18)]) (st2 := [.long 17, .long 0, .long 18]) jF_267_3 rfl rfl) ?_
                refine Eq.trans (jr_cS (as := [.long 18, .long 0, .long 17]) (rest := []) (v := some (.int 0)) (hp2 := jh2) (fr2 := 498) (lo2 := 19954) jF_267_6 rfl (show j_cnd 499 19979 498 19954 6 _ _ = true from rfl) ?_) ?_
                · refine Eq.trans (jr_s (pc2 := 1) (lv2 := [(0, .long 18), (2, .long 0), (4, .long 17)]) (st2 := [.long 18]) jF_232_0 rfl rfl) ?_
                  refine Eq.trans (jr_s (pc2 := 2) (lv2 := [(0, .long 18), (2, .long 0), (4, .long 17)]) (st2 := [.long 0, .long 18]) jF_232_1 rfl rfl) ?_
                  refine Eq.trans (jr_s (pc2 := 3) (lv2 := [(0, .long 18), (2, .long 0), (4, .long 17)]) (st2 := [.int 1]) jF_232_2 rfl rfl) ?_
                  refine Eq.trans (jr_if0 jF_232_3 (by decide +kernel)) ?_
                  refine Eq.trans (jr_s (pc2 := 7) (lv2 := [(0, .long 18), (2, .long 0), (4, .long 17)]) (st2 := [.long 18]) jF_232_6 rfl rfl) ?_
                  refine Eq.trans (jr_s (pc2 := 9) (lv2 := [(0, .long 18), (2, .long 0), (4, .long 17)]) (st2 := [.long 17, .long 18]) jF_232_7 rfl rfl) ?_
                  refine Eq.trans (jr_s (pc2 := 10) (lv2 := [(0, .long 18), (2, .long 0), (4, .long 17)]) (st2 := [.int 1]) jF_232_9 rfl rfl) ?_
                  refine Eq.trans (jr_if1 jF_232_10 (by decide +kernel)) ?_
                  refine Eq.trans (jr_s (pc2 := 18) (lv2 := [(0, .long 18), (2, .long 0), (4, .long 17)]) (st2 := [.int 0]) jF_232_17 rfl rfl) ?_
                  exact jr_ri jF_232_18 rfl
                refine Eq.trans (jr_if1 jF_267_9 (by decide +kernel)) ?_
                refine Eq.trans (jr_s (pc2 := 23) (lv2 := [(0, .ref 117), (1, .int 18)]) (st2 := [.int 18]) jF_267_22 rfl rfl) ?_
                refine Eq.trans (jr_s (pc2 := 25) (lv2 := [(0, .ref 117), (1, .int 18)]) (st2 := [.int 20, .int 18]) jF_267_23 rfl rfl) ?_
                refine Eq.trans (jr_s (pc2 := 26) (lv2 := [(0, .ref 117), (1, .int 18)]) (st2 := [.int (-2)]) jF_267_25 rfl rfl) ?_
                refine Eq.trans (jr_s (pc2 := 27) (lv2 := [(0, .ref 117), (1, .int 18)]) (st2 := [.long (-2)]) jF_267_26 rfl rfl) ?_
                refine Eq.trans (jr_s (pc2 := 28) (lv2 := [(0, .ref 117), (1, .int 18)]) (st2 := [.long 0, .long (-2)]) jF_267_27 rfl rfl) ?_
                refine Eq.trans (jr_s (pc2 := 29) (lv2 := [(0, .ref 117), (1, .int 18)]) (st2 := [.ref 117, .long 0, .long (-2)]) jF_267_28 rfl rfl) ?_
                refine Eq.trans (jr_gf (v := .int 0) jF_267_29 (by decide +kernel)) ?_
                refine Eq.trans (jr_s (pc2 := 33) (lv2 := [(0, .ref 117), (1, .int 18)]) (st2 := [.int 1, .int 0, .long 0, .long (-2)]) jF_267_32 rfl rfl) ?_
                refine Eq.trans (jr_s (pc2 := 34) (lv2 := [(0, .ref 117), (1, .int 18)]) (st2 := [.int (-1), .long 0, .long (-2)]) jF_267_33 rfl rfl) ?_
                refine Eq.trans (jr_s (pc2 := 35) (lv2 := [(0, .ref 117), (1, .int 18)]) (st2 := [.long (-1), .long 0, .long (-2)]) jF_267_34 rfl rfl) ?_
                refine Eq.trans (jr_cS (as := [.long (-2), .long 0, .long (-1)]) (rest := []) (v := some (.int 0)) (hp2 := jh2) (fr2 := 498) (lo2 := 19954) jF_267_35 rfl (show j_cnd 499 19979 498 19954 6 _ _ = true from rfl) ?_) ?_
                · refine Eq.trans (jr_s (pc2 := 1) (lv2 := [(0, .long (-2)), (2, .long 0), (4, .long (-1))]) (st2 := [.long (-2)]) jF_232_0 rfl rfl) ?_
                  refine Eq.trans (jr_s (pc2 := 2) (lv2 := [(0, .long (-2)), (2, .long 0), (4, .long (-1))]) (st2 := [.long 0, .long (-2)]) jF_232_1 rfl rfl) ?_
                  refine Eq.trans (jr_s (pc2 := 3) (lv2 := [(0, .long (-2)), (2, .long 0), (4, .long (-1))]) (st2 := [.int (-1)]) jF_232_2 rfl rfl) ?_
                  refine Eq.trans (jr_if1 jF_232_3 (by decide +kernel)) ?_
                  refine Eq.trans (jr_s (pc2 := 18) (lv2 := [(0, .long (-2)), (2, .long 0), (4, .long (-1))]) (st2 := [.int 0]) jF_232_17 rfl rfl) ?_
                  exact jr_ri jF_232_18 rfl
                refine Eq.trans (jr_if1 jF_267_38 (by decide +kernel)) ?_
                refine Eq.trans (jr_s (pc2 := 56) (lv2 := [(0, .ref 117), (1, .int 18)]) (st2 := [.long 0]) jF_267_55 rfl rfl) ?_
                exact jr_rl jF_267_56
              refine Eq.trans (jr_s (pc2 := 6) (lv2 := [(3, .long 0), (0, .ref 117), (1, .int 18), (2, .int a2)]) (st2 := []) jF_266_5 rfl rfl) ?_
              refine Eq.trans (jr_s (pc2 := 7) (lv2 := [(3, .long 0), (0, .ref 117), (1, .int 18), (2, .int a2)]) (st2 := [.long 0]) jF_266_6 rfl rfl) ?_
              refine Eq.trans (jr_s (pc2 := 8) (lv2 := [(3, .long 0), (0, .ref 117), (1, .int 18), (2, .int a2)]) (st2 := [.long 0, .long 0]) jF_266_7 rfl rfl) ?_
              refine Eq.trans (jr_s (pc2 := 9) (lv2 := [(3, .long 0), (0, .ref 117), (1, .int 18), (2, .int a2)]) (st2 := [.int 0]) jF_266_8 rfl rfl) ?_
              refine Eq.trans (jr_if1 jF_266_9 (by decide +kernel)) ?_
              refine Eq.trans (jr_s (pc2 := 25) (lv2 := [(3, .long 0), (0, .ref 117), (1, .int 18), (2, .int a2)]) (st2 := [.int (-1)]) jF_266_24 rfl rfl) ?_
              exact jr_ri jF_266_25 rfl
          · rcases j_ilt a1.toInt 20 with h_a1_20 | h_a1_20
            · obtain rfl : a1 = 19 := Int32.toInt_inj.mp (by rw [show (19 : Int32).toInt = 19 from by decide]; omega)
              refine ⟨60000, 60000, (-1), jh2, jh2, ?_, ?_, by decide +kernel⟩
              · refine Eq.trans (jr_s (pc2 := 1) (lv2 := [(0, .ref 9), (1, .int 19), (2, .int a2)]) (st2 := [.ref 9]) jF_92_0 rfl rfl) ?_
                refine Eq.trans (jr_gf (v := .ref 20) jF_92_1 (by decide +kernel)) ?_
                refine Eq.trans (jr_s (pc2 := 5) (lv2 := [(0, .ref 9), (1, .int 19), (2, .int a2)]) (st2 := [.int 19, .ref 20]) jF_92_4 rfl rfl) ?_
                refine Eq.trans (jr_s (pc2 := 6) (lv2 := [(0, .ref 9), (1, .int 19), (2, .int a2)]) (st2 := [.int a2, .int 19, .ref 20]) jF_92_5 rfl rfl) ?_
                refine Eq.trans (jr_cV (a := 20) (as := [.int 19, .int a2]) (rest := []) (v := some (.int (-1))) (hp2 := jh2) (fr2 := 499) (lo2 := 19978) jF_92_6 (by decide +kernel) rfl (show j_cnd 500 20000 499 19978 3 _ _ = true from rfl) ?_) ?_
                · refine Eq.trans (jr_s (pc2 := 1) (lv2 := [(0, .ref 20), (1, .int 19), (2, .int a2)]) (st2 := [.int 19]) jF_93_0 rfl rfl) ?_
                  refine Eq.trans (jr_if0 jF_93_1 (by decide +kernel)) ?_
                  refine Eq.trans (jr_s (pc2 := 5) (lv2 := [(0, .ref 20), (1, .int 19), (2, .int a2)]) (st2 := [.int 19]) jF_93_4 rfl rfl) ?_
                  refine Eq.trans (jr_s (pc2 := 6) (lv2 := [(0, .ref 20), (1, .int 19), (2, .int a2)]) (st2 := [.ref 20, .int 19]) jF_93_5 rfl rfl) ?_
                  refine Eq.trans (jr_gf (v := .ref 21) jF_93_6 (by decide +kernel)) ?_
                  refine Eq.trans (jr_al (v := 25) jF_93_9 (by decide +kernel)) ?_
                  refine Eq.trans (jr_ic0 jF_93_10 (by decide +kernel)) ?_
                  refine Eq.trans (jr_s (pc2 := 14) (lv2 := [(0, .ref 20), (1, .int 19), (2, .int a2)]) (st2 := [.int a2]) jF_93_13 rfl rfl) ?_
                  refine Eq.trans (jr_if1 jF_93_14 (jk_lt_lt (show (a2 : Int32).toInt < (0 : Int32).toInt by rw [show (0 : Int32).toInt = 0 from by decide]; omega))) ?_
                  refine Eq.trans (jr_s (pc2 := 33) (lv2 := [(0, .ref 20), (1, .int 19), (2, .int a2)]) (st2 := [.int (-1)]) jF_93_32 rfl rfl) ?_
                  exact jr_ri jF_93_33 rfl
                exact jr_ri jF_92_9 rfl
              · refine Eq.trans (jr_s (pc2 := 1) (lv2 := [(0, .ref 117), (1, .int 19), (2, .int a2)]) (st2 := [.ref 117]) jF_266_0 rfl rfl) ?_
                refine Eq.trans (jr_s (pc2 := 2) (lv2 := [(0, .ref 117), (1, .int 19), (2, .int a2)]) (st2 := [.int 19, .ref 117]) jF_266_1 rfl rfl) ?_
                refine Eq.trans (jr_cV (a := 117) (as := [.int 19]) (rest := []) (v := some (.long 0)) (hp2 := jh2) (fr2 := 499) (lo2 := 19979) jF_266_2 (by decide +kernel) rfl (show j_cnd 500 20000 499 19979 2 _ _ = true from rfl) ?_) ?_
                · refine Eq.trans (jr_s (pc2 := 1) (lv2 := [(0, .ref 117), (1, .int 19)]) (st2 := [.int 19]) jF_267_0 rfl rfl) ?_
                  refine Eq.trans (jr_s (pc2 := 2) (lv2 := [(0, .ref 117), (1, .int 19)]) (st2 := [.long 19]) jF_267_1 rfl rfl) ?_
                  refine Eq.trans (jr_s (pc2 := 3) (lv2 := [(0, .ref 117), (1, .int 19)]) (st2 := [.long 0, .long 19]) jF_267_2 rfl rfl) ?_
                  refine Eq.trans (jr_s (pc2 := 6) (lv2 := [(0, .ref 117), (1, .int 19)]) (st2 := [.long 17, .long 0, .long 19]) jF_267_3 rfl rfl) ?_
                  refine Eq.trans (jr_cS (as := [.long 19, .long 0, .long 17]) (rest := []) (v := some (.int 0)) (hp2 := jh2) (fr2 := 498) (lo2 := 19954) jF_267_6 rfl (show j_cnd 499 19979 498 19954 6 _ _ = true from rfl) ?_) ?_
                  · refine Eq.trans (jr_s (pc2 := 1) (lv2 := [(0, .long 19), (2, .long 0), (4, .long 17)]) (st2 := [.long 19]) jF_232_0 rfl rfl) ?_
                    refine Eq.trans (jr_s (pc2 := 2) (lv2 := [(0, .long 19), (2, .long 0), (4, .long 17)]) (st2 := [.long 0, .long 19]) jF_232_1 rfl rfl) ?_
                    refine Eq.trans (jr_s (pc2 := 3) (lv2 := [(0, .long 19), (2, .long 0), (4, .long 17)]) (st2 := [.int 1]) jF_232_2 rfl rfl) ?_
                    refine Eq.trans (jr_if0 jF_232_3 (by decide +kernel)) ?_
                    refine Eq.trans (jr_s (pc2 := 7) (lv2 := [(0, .long 19), (2, .long 0), (4, .long 17)]) (st2 := [.long 19]) jF_232_6 rfl rfl) ?_
                    refine Eq.trans (jr_s (pc2 := 9) (lv2 := [(0, .long 19), (2, .long 0), (4, .long 17)]) (st2 := [.long 17, .long 19]) jF_232_7 rfl rfl) ?_
                    refine Eq.trans (jr_s (pc2 := 10) (lv2 := [(0, .long 19), (2, .long 0), (4, .long 17)]) (st2 := [.int 1]) jF_232_9 rfl rfl) ?_
                    refine Eq.trans (jr_if1 jF_232_10 (by decide +kernel)) ?_
                    refine Eq.trans (jr_s (pc2 := 18) (lv2 := [(0, .long 19), (2, .long 0), (4, .long 17)]) (st2 := [.int 0]) jF_232_17 rfl rfl) ?_
                    exact jr_ri jF_232_18 rfl
                  refine Eq.trans (jr_if1 jF_267_9 (by decide +kernel)) ?_
                  refine Eq.trans (jr_s (pc2 := 23) (lv2 := [(0, .ref 117), (1, .int 19)]) (st2 := [.int 19]) jF_267_22 rfl rfl) ?_
                  refine Eq.trans (jr_s (pc2 := 25) (lv2 := [(0, .ref 117), (1, .int 19)]) (st2 := [.int 20, .int 19]) jF_267_23 rfl rfl) ?_
                  refine Eq.trans (jr_s (pc2 := 26) (lv2 := [(0, .ref 117), (1, .int 19)]) (st2 := [.int (-1)]) jF_267_25 rfl rfl) ?_
                  refine Eq.trans (jr_s (pc2 := 27) (lv2 := [(0, .ref 117), (1, .int 19)]) (st2 := [.long (-1)]) jF_267_26 rfl rfl) ?_
                  refine Eq.trans (jr_s (pc2 := 28) (lv2 := [(0, .ref 117), (1, .int 19)]) (st2 := [.long 0, .long (-1)]) jF_267_27 rfl rfl) ?_
                  refine Eq.trans (jr_s (pc2 := 29) (lv2 := [(0, .ref 117), (1, .int 19)]) (st2 := [.ref 117, .long 0, .long (-1)]) jF_267_28 rfl rfl) ?_
                  refine Eq.trans (jr_gf (v := .int 0) jF_267_29 (by decide +kernel)) ?_
                  refine Eq.trans (jr_s (pc2 := 33) (lv2 := [(0, .ref 117), (1, .int 19)]) (st2 := [.int 1, .int 0, .long 0, .long (-1)]) jF_267_32 rfl rfl) ?_
                  refine Eq.trans (jr_s (pc2 := 34) (lv2 := [(0, .ref 117), (1, .int 19)]) (st2 := [.int (-1), .long 0, .long (-1)]) jF_267_33 rfl rfl) ?_
                  refine Eq.trans (jr_s (pc2 := 35) (lv2 := [(0, .ref 117), (1, .int 19)]) (st2 := [.long (-1), .long 0, .long (-1)]) jF_267_34 rfl rfl) ?_
                  refine Eq.trans (jr_cS (as := [.long (-1), .long 0, .long (-1)]) (rest := []) (v := some (.int 0)) (hp2 := jh2) (fr2 := 498) (lo2 := 19954) jF_267_35 rfl (show j_cnd 499 19979 498 19954 6 _ _ = true from rfl) ?_) ?_
                  · refine Eq.trans (jr_s (pc2 := 1) (lv2 := [(0, .long (-1)), (2, .long 0), (4, .long (-1))]) (st2 := [.long (-1)]) jF_232_0 rfl rfl) ?_
                    refine Eq.trans (jr_s (pc2 := 2) (lv2 := [(0, .long (-1)), (2, .long 0), (4, .long (-1))]) (st2 := [.long 0, .long (-1)]) jF_232_1 rfl rfl) ?_
                    refine Eq.trans (jr_s (pc2 := 3) (lv2 := [(0, .long (-1)), (2, .long 0), (4, .long (-1))]) (st2 := [.int (-1)]) jF_232_2 rfl rfl) ?_
                    refine Eq.trans (jr_if1 jF_232_3 (by decide +kernel)) ?_
                    refine Eq.trans (jr_s (pc2 := 18) (lv2 := [(0, .long (-1)), (2, .long 0), (4, .long (-1))]) (st2 := [.int 0]) jF_232_17 rfl rfl) ?_
                    exact jr_ri jF_232_18 rfl
                  refine Eq.trans (jr_if1 jF_267_38 (by decide +kernel)) ?_
                  refine Eq.trans (jr_s (pc2 := 56) (lv2 := [(0, .ref 117), (1, .int 19)]) (st2 := [.long 0]) jF_267_55 rfl rfl) ?_
                  exact jr_rl jF_267_56
                refine Eq.trans (jr_s (pc2 := 6) (lv2 := [(3, .long 0), (0, .ref 117), (1, .int 19), (2, .int a2)]) (st2 := []) jF_266_5 rfl rfl) ?_
                refine Eq.trans (jr_s (pc2 := 7) (lv2 := [(3, .long 0), (0, .ref 117), (1, .int 19), (2, .int a2)]) (st2 := [.long 0]) jF_266_6 rfl rfl) ?_
                refine Eq.trans (jr_s (pc2 := 8) (lv2 := [(3, .long 0), (0, .ref 117), (1, .int 19), (2, .int a2)]) (st2 := [.long 0, .long 0]) jF_266_7 rfl rfl) ?_
                refine Eq.trans (jr_s (pc2 := 9) (lv2 := [(3, .long 0), (0, .ref 117), (1, .int 19), (2, .int a2)]) (st2 := [.int 0]) jF_266_8 rfl rfl) ?_
                refine Eq.trans (jr_if1 jF_266_9 (by decide +kernel)) ?_
                refine Eq.trans (jr_s (pc2 := 25) (lv2 := [(3, .long 0), (0, .ref 117), (1, .int 19), (2, .int a2)]) (st2 := [.int (-1)]) jF_266_24 rfl rfl) ?_
                exact jr_ri jF_266_25 rfl
            · rcases j_ilt a1.toInt 21 with h_a1_21 | h_a1_21
              · obtain rfl : a1 = 20 := Int32.toInt_inj.mp (by rw [show (20 : Int32).toInt = 20 from by decide]; omega)
                refine ⟨60000, 60000, (-1), jh2, jh2, ?_, ?_, by decide +kernel⟩
                · refine Eq.trans (jr_s (pc2 := 1) (lv2 := [(0, .ref 9), (1, .int 20), (2, .int a2)]) (st2 := [.ref 9]) jF_92_0 rfl rfl) ?_
                  refine Eq.trans (jr_gf (v := .ref 20) jF_92_1 (by decide +kernel)) ?_
                  refine Eq.trans (jr_s (pc2 := 5) (lv2 := [(0, .ref 9), (1, .int 20), (2, .int a2)]) (st2 := [.int 20, .ref 20]) jF_92_4 rfl rfl) ?_
                  refine Eq.trans (jr_s (pc2 := 6) (lv2 := [(0, .ref 9), (1, .int 20), (2, .int a2)]) (st2 := [.int a2, .int 20, .ref 20]) jF_92_5 rfl rfl) ?_
                  refine Eq.trans (jr_cV (a := 20) (as := [.int 20, .int a2]) (rest := []) (v := some (.int (-1))) (hp2 := jh2) (fr2 := 499) (lo2 := 19978) jF_92_6 (by decide +kernel) rfl (show j_cnd 500 20000 499 19978 3 _ _ = true from rfl) ?_) ?_
                  · refine Eq.trans (jr_s (pc2 := 1) (lv2 := [(0, .ref 20), (1, .int 20), (2, .int a2)]) (st2 := [.int 20]) jF_93_0 rfl rfl) ?_
                    refine Eq.trans (jr_if0 jF_93_1 (by decide +kernel)) ?_
                    refine Eq.trans (jr_s (pc2 := 5) (lv2 := [(0, .ref 20), (1, .int 20), (2, .int a2)]) (st2 := [.int 20]) jF_93_4 rfl rfl) ?_
                    refine Eq.trans (jr_s (pc2 := 6) (lv2 := [(0, .ref 20), (1, .int 20), (2, .int a2)]) (st2 := [.ref 20, .int 20]) jF_93_5 rfl rfl) ?_
                    refine Eq.trans (jr_gf (v := .ref 21) jF_93_6 (by decide +kernel)) ?_
                    refine Eq.trans (jr_al (v := 25) jF_93_9 (by decide +kernel)) ?_
                    refine Eq.trans (jr_ic0 jF_93_10 (by decide +kernel)) ?_
                    refine Eq.trans (jr_s (pc2 := 14) (lv2 := [(0, .ref 20), (1, .int 20), (2, .int a2)]) (st2 := [.int a2]) jF_93_13 rfl rfl) ?_
                    refine Eq.trans (jr_if1 jF_93_14 (jk_lt_lt (show (a2 : Int32).toInt < (0 : Int32).toInt by rw [show (0 : Int32).toInt = 0 from by decide]; omega))) ?_
                    refine Eq.trans (jr_s (pc2 := 33) (lv2 := [(0, .ref 20), (1, .int 20), (2, .int a2)]) (st2 := [.int (-1)]) jF_93_32 rfl rfl) ?_
                    exact jr_ri jF_93_33 rfl
                  exact jr_ri jF_92_9 rfl
                · refine Eq.trans (jr_s (pc2 := 1) (lv2 := [(0, .ref 117), (1, .int 20), (2, .int a2)]) (st2 := [.ref 117]) jF_266_0 rfl rfl) ?_
                  refine Eq.trans (jr_s (pc2 := 2) (lv2 := [(0, .ref 117), (1, .int 20), (2, .int a2)]) (st2 := [.int 20, .ref 117]) jF_266_1 rfl rfl) ?_
                  refine Eq.trans (jr_cV (a := 117) (as := [.int 20]) (rest := []) (v := some (.long 0)) (hp2 := jh2) (fr2 := 499) (lo2 := 19979) jF_266_2 (by decide +kernel) rfl (show j_cnd 500 20000 499 19979 2 _ _ = true from rfl) ?_) ?_
                  · refine Eq.trans (jr_s (pc2 := 1) (lv2 := [(0, .ref 117), (1, .int 20)]) (st2 := [.int 20]) jF_267_0 rfl rfl) ?_
                    refine Eq.trans (jr_s (pc2 := 2) (lv2 := [(0, .ref 117), (1, .int 20)]) (st2 := [.long 20]) jF_267_1 rfl rfl) ?_
                    refine Eq.trans (jr_s (pc2 := 3) (lv2 := [(0, .ref 117), (1, .int 20)]) (st2 := [.long 0, .long 20]) jF_267_2 rfl rfl) ?_
                    refine Eq.trans (jr_s (pc2 := 6) (lv2 := [(0, .ref 117), (1, .int 20)]) (st2 := [.long 17, .long 0, .long 20]) jF_267_3 rfl rfl) ?_
                    refine Eq.trans (jr_cS (as := [.long 20, .long 0, .long 17]) (rest := []) (v := some (.int 0)) (hp2 := jh2) (fr2 := 498) (lo2 := 19954) jF_267_6 rfl (show j_cnd 499 19979 498 19954 6 _ _ = true from rfl) ?_) ?_
                    · refine Eq.trans (jr_s (pc2 := 1) (lv2 := [(0, .long 20), (2, .long 0), (4, .long 17)]) (st2 := [.long 20]) jF_232_0 rfl rfl) ?_
                      refine Eq.trans (jr_s (pc2 := 2) (lv2 := [(0, .long 20), (2, .long 0), (4, .long 17)]) (st2 := [.long 0, .long 20]) jF_232_1 rfl rfl) ?_
                      refine Eq.trans (jr_s (pc2 := 3) (lv2 := [(0, .long 20), (2, .long 0), (4, .long 17)]) (st2 := [.int 1]) jF_232_2 rfl rfl) ?_
                      refine Eq.trans (jr_if0 jF_232_3 (by decide +kernel)) ?_
                      refine Eq.trans (jr_s (pc2 := 7) (lv2 := [(0, .long 20), (2, .long 0), (4, .long 17)]) (st2 := [.long 20]) jF_232_6 rfl rfl) ?_
                      refine Eq.trans (jr_s (pc2 := 9) (lv2 := [(0, .long 20), (2, .long 0), (4, .long 17)]) (st2 := [.long 17, .long 20]) jF_232_7 rfl rfl) ?_
                      refine Eq.trans (jr_s (pc2 := 10) (lv2 := [(0, .long 20), (2, .long 0), (4, .long 17)]) (st2 := [.int 1]) jF_232_9 rfl rfl) ?_
                      refine Eq.trans (jr_if1 jF_232_10 (by decide +kernel)) ?_
                      refine Eq.trans (jr_s (pc2 := 18) (lv2 := [(0, .long 20), (2, .long 0), (4, .long 17)]) (st2 := [.int 0]) jF_232_17 rfl rfl) ?_
                      exact jr_ri jF_232_18 rfl
                    refine Eq.trans (jr_if1 jF_267_9 (by decide +kernel)) ?_
                    refine Eq.trans (jr_s (pc2 := 23) (lv2 := [(0, .ref 117), (1, .int 20)]) (st2 := [.int 20]) jF_267_22 rfl rfl) ?_
                    refine Eq.trans (jr_s (pc2 := 25) (lv2 := [(0, .ref 117), (1, .int 20)]) (st2 := [.int 20, .int 20]) jF_267_23 rfl rfl) ?_
                    refine Eq.trans (jr_s (pc2 := 26) (lv2 := [(0, .ref 117), (1, .int 20)]) (st2 := [.int 0]) jF_267_25 rfl rfl) ?_
                    refine Eq.trans (jr_s (pc2 := 27) (lv2 := [(0, .ref 117), (1, .int 20)]) (st2 := [.long 0]) jF_267_26 rfl rfl) ?_
                    refine Eq.trans (jr_s (pc2 := 28) (lv2 := [(0, .ref 117), (1, .int 20)]) (st2 := [.long 0, .long 0]) jF_267_27 rfl rfl) ?_
                    refine Eq.trans (jr_s (pc2 := 29) (lv2 := [(0, .ref 117), (1, .int 20)]) (st2 := [.ref 117, .long 0, .long 0]) jF_267_28 rfl rfl) ?_
                    refine Eq.trans (jr_gf (v := .int 0) jF_267_29 (by decide +kernel)) ?_
                    refine Eq.trans (jr_s (pc2 := 33) (lv2 := [(0, .ref 117), (1, .int 20)]) (st2 := [.int 1, .int 0, .long 0, .long 0]) jF_267_32 rfl rfl) ?_
                    refine Eq.trans (jr_s (pc2 := 34) (lv2 := [(0, .ref 117), (1, .int 20)]) (st2 := [.int (-1), .long 0, .long 0]) jF_267_33 rfl rfl) ?_
                    refine Eq.trans (jr_s (pc2 := 35) (lv2 := [(0, .ref 117), (1, .int 20)]) (st2 := [.long (-1), .long 0, .long 0]) jF_267_34 rfl rfl) ?_
                    refine Eq.trans (jr_cS (as := [.long 0, .long 0, .long (-1)]) (rest := []) (v := some (.int 0)) (hp2 := jh2) (fr2 := 498) (lo2 := 19954) jF_267_35 rfl (show j_cnd 499 19979 498 19954 6 _ _ = true from rfl) ?_) ?_
                    · refine Eq.trans (jr_s (pc2 := 1) (lv2 := [(0, .long 0), (2, .long 0), (4, .long (-1))]) (st2 := [.long 0]) jF_232_0 rfl rfl) ?_
                      refine Eq.trans (jr_s (pc2 := 2) (lv2 := [(0, .long 0), (2, .long 0), (4, .long (-1))]) (st2 := [.long 0, .long 0]) jF_232_1 rfl rfl) ?_
                      refine Eq.trans (jr_s (pc2 := 3) (lv2 := [(0, .long 0), (2, .long 0), (4, .long (-1))]) (st2 := [.int 0]) jF_232_2 rfl rfl) ?_
                      refine Eq.trans (jr_if0 jF_232_3 (by decide +kernel)) ?_
                      refine Eq.trans (jr_s (pc2 := 7) (lv2 := [(0, .long 0), (2, .long 0), (4, .long (-1))]) (st2 := [.long 0]) jF_232_6 rfl rfl) ?_
                      refine Eq.trans (jr_s (pc2 := 9) (lv2 := [(0, .long 0), (2, .long 0), (4, .long (-1))]) (st2 := [.long (-1), .long 0]) jF_232_7 rfl rfl) ?_
                      refine Eq.trans (jr_s (pc2 := 10) (lv2 := [(0, .long 0), (2, .long 0), (4, .long (-1))]) (st2 := [.int 1]) jF_232_9 rfl rfl) ?_
                      refine Eq.trans (jr_if1 jF_232_10 (by decide +kernel)) ?_
                      refine Eq.trans (jr_s (pc2 := 18) (lv2 := [(0, .long 0), (2, .long 0), (4, .long (-1))]) (st2 := [.int 0]) jF_232_17 rfl rfl) ?_
                      exact jr_ri jF_232_18 rfl
                    refine Eq.trans (jr_if1 jF_267_38 (by decide +kernel)) ?_
                    refine Eq.trans (jr_s (pc2 := 56) (lv2 := [(0, .ref 117), (1, .int 20)]) (st2 := [.long 0]) jF_267_55 rfl rfl) ?_
                    exact jr_rl jF_267_56
                  refine Eq.trans (jr_s (pc2 := 6) (lv2 := [(3, .long 0), (0, .ref 117), (1, .int 20), (2, .int a2)]) (st2 := []) jF_266_5 rfl rfl) ?_
                  refine Eq.trans (jr_s (pc2 := 7) (lv2 := [(3, .long 0), (0, .ref 117), (1, .int 20), (2, .int a2)]) (st2 := [.long 0]) jF_266_6 rfl rfl) ?_
                  refine Eq.trans (jr_s (pc2 := 8) (lv2 := [(3, .long 0), (0, .ref 117), (1, .int 20), (2, .int a2)]) (st2 := [.long 0, .long 0]) jF_266_7 rfl rfl) ?_
                  refine Eq.trans (jr_s (pc2 := 9) (lv2 := [(3, .long 0), (0, .ref 117), (1, .int 20), (2, .int a2)]) (st2 := [.int 0]) jF_266_8 rfl rfl) ?_
                  refine Eq.trans (jr_if1 jF_266_9 (by decide +kernel)) ?_
                  refine Eq.trans (jr_s (pc2 := 25) (lv2 := [(3, .long 0), (0, .ref 117), (1, .int 20), (2, .int a2)]) (st2 := [.int (-1)]) jF_266_24 rfl rfl) ?_
                  exact jr_ri jF_266_25 rfl
              · rcases j_ilt a1.toInt 22 with h_a1_22 | h_a1_22
                · obtain rfl : a1 = 21 := Int32.toInt_inj.mp (by rw [show (21 : Int32).toInt = 21 from by decide]; omega)
                  refine ⟨60000, 60000, (-1), jh2, jh2, ?_, ?_, by decide +kernel⟩
                  · refine Eq.trans (jr_s (pc2 := 1) (lv2 := [(0, .ref 9), (1, .int 21), (2, .int a2)]) (st2 := [.ref 9]) jF_92_0 rfl rfl) ?_
                    refine Eq.trans (jr_gf (v := .ref 20) jF_92_1 (by decide +kernel)) ?_
                    refine Eq.trans (jr_s (pc2 := 5) (lv2 := [(0, .ref 9), (1, .int 21), (2, .int a2)]) (st2 := [.int 21, .ref 20]) jF_92_4 rfl rfl) ?_
                    refine Eq.trans (jr_s (pc2 := 6) (lv2 := [(0, .ref 9), (1, .int 21), (2, .int a2)]) (st2 := [.int a2, .int 21, .ref 20]) jF_92_5 rfl rfl) ?_
                    refine Eq.trans (jr_cV (a := 20) (as := [.int 21, .int a2]) (rest := []) (v := some (.int (-1))) (hp2 := jh2) (fr2 := 499) (lo2 := 19978) jF_92_6 (by decide +kernel) rfl (show j_cnd 500 20000 499 19978 3 _ _ = true from rfl) ?_) ?_
                    · refine Eq.trans (jr_s (pc2 := 1) (lv2 := [(0, .ref 20), (1, .int 21), (2, .int a2)]) (st2 := [.int 21]) jF_93_0 rfl rfl) ?_
                      refine Eq.trans (jr_if0 jF_93_1 (by decide +kernel)) ?_
                      refine Eq.trans (jr_s (pc2 := 5) (lv2 := [(0, .ref 20), (1, .int 21), (2, .int a2)]) (st2 := [.int 21]) jF_93_4 rfl rfl) ?_
                      refine Eq.trans (jr_s (pc2 := 6) (lv2 := [(0, .ref 20), (1, .int 21), (2, .int a2)]) (st2 := [.ref 20, .int 21]) jF_93_5 rfl rfl) ?_
                      refine Eq.trans (jr_gf (v := .ref 21) jF_93_6 (by decide +kernel)) ?_
                      refine Eq.trans (jr_al (v := 25) jF_93_9 (by decide +kernel)) ?_
                      refine Eq.trans (jr_ic0 jF_93_10 (by decide +kernel)) ?_
                      refine Eq.trans (jr_s (pc2 := 14) (lv2 := [(0, .ref 20), (1, .int 21), (2, .int a2)]) (st2 := [.int a2]) jF_93_13 rfl rfl) ?_
                      refine Eq.trans (jr_if1 jF_93_14 (jk_lt_lt (show (a2 : Int32).toInt < (0 : Int32).toInt by rw [show (0 : Int32).toInt = 0 from by decide]; omega))) ?_
                      refine Eq.trans (jr_s (pc2 := 33) (lv2 := [(0, .ref 20), (1, .int 21), (2, .int a2)]) (st2 := [.int (-1)]) jF_93_32 rfl rfl) ?_
                      exact jr_ri jF_93_33 rfl
                    exact jr_ri jF_92_9 rfl
                  · refine Eq.trans (jr_s (pc2 := 1) (lv2 := [(0, .ref 117), (1, .int 21), (2, .int a2)]) (st2 := [.ref 117]) jF_266_0 rfl rfl) ?_
                    refine Eq.trans (jr_s (pc2 := 2) (lv2 := [(0, .ref 117), (1, .int 21), (2, .int a2)]) (st2 := [.int 21, .ref 117]) jF_266_1 rfl rfl) ?_
                    refine Eq.trans (jr_cV (a := 117) (as := [.int 21]) (rest := []) (v := some (.long 0)) (hp2 := jh2) (fr2 := 499) (lo2 := 19979) jF_266_2 (by decide +kernel) rfl (show j_cnd 500 20000 499 19979 2 _ _ = true from rfl) ?_) ?_
                    · refine Eq.trans (jr_s (pc2 := 1) (lv2 := [(0, .ref 117), (1, .int 21)]) (st2 := [.int 21]) jF_267_0 rfl rfl) ?_
                      refine Eq.trans (jr_s (pc2 := 2) (lv2 := [(0, .ref 117), (1, .int 21)]) (st2 := [.long 21]) jF_267_1 rfl rfl) ?_
                      refine Eq.trans (jr_s (pc2 := 3) (lv2 := [(0, .ref 117), (1, .int 21)]) (st2 := [.long 0, .long 21]) jF_267_2 rfl rfl) ?_
                      refine Eq.trans (jr_s (pc2 := 6) (lv2 := [(0, .ref 117), (1, .int 21)]) (st2 := [.long 17, .long 0, .long 21]) jF_267_3 rfl rfl) ?_
                      refine Eq.trans (jr_cS (as := [.long 21, .long 0, .long 17]) (rest := []) (v := some (.int 0)) (hp2 := jh2) (fr2 := 498) (lo2 := 19954) jF_267_6 rfl (show j_cnd 499 19979 498 19954 6 _ _ = true from rfl) ?_) ?_
                      · refine Eq.trans (jr_s (pc2 := 1) (lv2 := [(0, .long 21), (2, .long 0), (4, .long 17)]) (st2 := [.long 21]) jF_232_0 rfl rfl) ?_
                        refine Eq.trans (jr_s (pc2 := 2) (lv2 := [(0, .long 21), (2, .long 0), (4, .long 17)]) (st2 := [.long 0, .long 21]) jF_232_1 rfl rfl) ?_
                        refine Eq.trans (jr_s (pc2 := 3) (lv2 := [(0, .long 21), (2, .long 0), (4, .long 17)]) (st2 := [.int 1]) jF_232_2 rfl rfl) ?_
                        refine Eq.trans (jr_if0 jF_232_3 (by decide +kernel)) ?_
                        refine Eq.trans (jr_s (pc2 := 7) (lv2 := [(0, .long 21), (2, .long 0), (4, .long 17)]) (st2 := [.long 21]) jF_232_6 rfl rfl) ?_
                        refine Eq.trans (jr_s (pc2 := 9) (lv2 := [(0, .long 21), (2, .long 0), (4, .long 17)]) (st2 := [.long 17, .long 21]) jF_232_7 rfl rfl) ?_
                        refine Eq.trans (jr_s (pc2 := 10) (lv2 := [(0, .long 21), (2, .long 0), (4, .long 17)]) (st2 := [.int 1]) jF_232_9 rfl rfl) ?_
                        refine Eq.trans (jr_if1 jF_232_10 (by decide +kernel)) ?_
                        refine Eq.trans (jr_s (pc2 := 18) (lv2 := [(0, .long 21), (2, .long 0), (4, .long 17)]) (st2 := [.int 0]) jF_232_17 rfl rfl) ?_
                        exact jr_ri jF_232_18 rfl
                      refine Eq.trans (jr_if1 jF_267_9 (by decide +kernel)) ?_
                      refine Eq.trans (jr_s (pc2 := 23) (lv2 := [(0, .ref 117), (1, .int 21)]) (st2 := [.int 21]) jF_267_22 rfl rfl) ?_
                      refine Eq.trans (jr_s (pc2 := 25) (lv2 := [(0, .ref 117), (1, .int 21)]) (st2 := [.int 20, .int 21]) jF_267_23 rfl rfl) ?_
                      refine Eq.trans (jr_s (pc2 := 26) (lv2 := [(0, .ref 117), (1, .int 21)]) (st2 := [.int 1]) jF_267_25 rfl rfl) ?_
                      refine Eq.trans (jr_s (pc2 := 27) (lv2 := [(0, .ref 117), (1, .int 21)]) (st2 := [.long 1]) jF_267_26 rfl rfl) ?_
                      refine Eq.trans (jr_s (pc2 := 28) (lv2 := [(0, .ref 117), (1, .int 21)]) (st2 := [.long 0, .long 1]) jF_267_27 rfl rfl) ?_
                      refine Eq.trans (jr_s (pc2 := 29) (lv2 := [(0, .ref 117), (1, .int 21)]) (st2 := [.ref 117, .long 0, .long 1]) jF_267_28 rfl rfl) ?_
                      refine Eq.trans (jr_gf (v := .int 0) jF_267_29 (by decide +kernel)) ?_
                      refine Eq.trans (jr_s (pc2 := 33) (lv2 := [(0, .ref 117), (1, .int 21)]) (st2 := [.int 1, .int 0, .long 0, .long 1]) jF_267_32 rfl rfl) ?_
                      refine Eq.trans (jr_s (pc2 := 34) (lv2 := [(0, .ref 117), (1, .int 21)]) (st2 := [.int (-1), .long 0, .long 1]) jF_267_33 rfl rfl) ?_
                      refine Eq.trans (jr_s (pc2 := 35) (lv2 := [(0, .ref 117), (1, .int 21)]) (st2 := [.long (-1), .long 0, .long 1]) jF_267_34 rfl rfl) ?_
                      refine Eq.trans (jr_cS (as := [.long 1, .long 0, .long (-1)]) (rest := []) (v := some (.int 0)) (hp2 := jh2) (fr2 := 498) (lo2 := 19954) jF_267_35 rfl (show j_cnd 499 19979 498 19954 6 _ _ = true from rfl) ?_) ?_
                      · refine Eq.trans (jr_s (pc2 := 1) (lv2 := [(0, .long 1), (2, .long 0), (4, .long (-1))]) (st2 := [.long 1]) jF_232_0 rfl rfl) ?_
                        refine Eq.trans (jr_s (pc2 := 2) (lv2 := [(0, .long 1), (2, .long 0), (4, .long (-1))]) (st2 := [.long 0, .long 1]) jF_232_1 rfl rfl) ?_
                        refine Eq.trans (jr_s (pc2 := 3) (lv2 := [(0, .long 1), (2, .long 0), (4, .long (-1))]) (st2 := [.int 1]) jF_232_2 rfl rfl) ?_
                        refine Eq.trans (jr_if0 jF_232_3 (by decide +kernel)) ?_
                        refine Eq.trans (jr_s (pc2 := 7) (lv2 := [(0, .long 1), (2, .long 0), (4, .long (-1))]) (st2 := [.long 1]) jF_232_6 rfl rfl) ?_
                        refine Eq.trans (jr_s (pc2 := 9) (lv2 := [(0, .long 1), (2, .long 0), (4, .long (-1))]) (st2 := [.long (-1), .long 1]) jF_232_7 rfl rfl) ?_
                        refine Eq.trans (jr_s (pc2 := 10) (lv2 := [(0, .long 1), (2, .long 0), (4, .long (-1))]) (st2 := [.int 1]) jF_232_9 rfl rfl) ?_
                        refine Eq.trans (jr_if1 jF_232_10 (by decide +kernel)) ?_
                        refine Eq.trans (jr_s (pc2 := 18) (lv2 := [(0, .long 1), (2, .long 0), (4, .long (-1))]) (st2 := [.int 0]) jF_232_17 rfl rfl) ?_
                        exact jr_ri jF_232_18 rfl
                      refine Eq.trans (jr_if1 jF_267_38 (by decide +kernel)) ?_
                      refine Eq.trans (jr_s (pc2 := 56) (lv2 := [(0, .ref 117), (1, .int 21)]) (st2 := [.long 0]) jF_267_55 rfl rfl) ?_
                      exact jr_rl jF_267_56
                    refine Eq.trans (jr_s (pc2 := 6) (lv2 := [(3, .long 0), (0, .ref 117), (1, .int 21), (2, .int a2)]) (st2 := []) jF_266_5 rfl rfl) ?_
                    refine Eq.trans (jr_s (pc2 := 7) (lv2 := [(3, .long 0), (0, .ref 117), (1, .int 21), (2, .int a2)]) (st2 := [.long 0]) jF_266_6 rfl rfl) ?_
                    refine Eq.trans (jr_s (pc2 := 8) (lv2 := [(3, .long 0), (0, .ref 117), (1, .int 21), (2, .int a2)]) (st2 := [.long 0, .long 0]) jF_266_7 rfl rfl) ?_
                    refine Eq.trans (jr_s (pc2 := 9) (lv2 := [(3, .long 0), (0, .ref 117), (1, .int 21), (2, .int a2)]) (st2 := [.int 0]) jF_266_8 rfl rfl) ?_
                    refine Eq.trans (jr_if1 jF_266_9 (by decide +kernel)) ?_
                    refine Eq.trans (jr_s (pc2 := 25) (lv2 := [(3, .long 0), (0, .ref 117), (1, .int 21), (2, .int a2)]) (st2 := [.int (-1)]) jF_266_24 rfl rfl) ?_
                    exact jr_ri jF_266_25 rfl
                · rcases j_ilt a1.toInt 23 with h_a1_23 | h_a1_23
                  · obtain rfl : a1 = 22 := Int32.toInt_inj.mp (by rw [show (22 : Int32).toInt = 22 from by decide]; omega)
                    refine ⟨60000, 60000, (-1), jh2, jh2, ?_, ?_, by decide +kernel⟩
                    · refine Eq.trans (jr_s (pc2 := 1) (lv2 := [(0, .ref 9), (1, .int 22), (2, .int a2)]) (st2 := [.ref 9]) jF_92_0 rfl rfl) ?_
                      refine Eq.trans (jr_gf (v := .ref 20) jF_92_1 (by decide +kernel)) ?_
                      refine Eq.trans (jr_s (pc2 := 5) (lv2 := [(0, .ref 9), (1, .int 22), (2, .int a2)]) (st2 := [.int 22, .ref 20]) jF_92_4 rfl rfl) ?_
                      refine Eq.trans (jr_s (pc2 := 6) (lv2 := [(0, .ref 9), (1, .int 22), (2, .int a2)]) (st2 := [.int a2, .int 22, .ref 20]) jF_92_5 rfl rfl) ?_
                      refine Eq.trans (jr_cV (a := 20) (as := [.int 22, .int a2]) (rest := []) (v := some (.int (-1))) (hp2 := jh2) (fr2 := 499) (lo2 := 19978) jF_92_6 (by decide +kernel) rfl (show j_cnd 500 20000 499 19978 3 _ _ = true from rfl) ?_) ?_
                      · refine Eq.trans (jr_s (pc2 := 1) (lv2 := [(0, .ref 20), (1, .int 22), (2, .int a2)]) (st2 := [.int 22]) jF_93_0 rfl rfl) ?_
                        refine Eq.trans (jr_if0 jF_93_1 (by decide +kernel)) ?_
                        refine Eq.trans (jr_s (pc2 := 5) (lv2 := [(0, .ref 20), (1, .int 22), (2, .int a2)]) (st2 := [.int 22]) jF_93_4 rfl rfl) ?_
                        refine Eq.trans (jr_s (pc2 := 6) (lv2 := [(0, .ref 20), (1, .int 22), (2, .int a2)]) (st2 := [.ref 20, .int 22]) jF_93_5 rfl rfl) ?_
                        refine Eq.trans (jr_gf (v := .ref 21) jF_93_6 (by decide +kernel)) ?_
                        refine Eq.trans (jr_al (v := 25) jF_93_9 (by decide +kernel)) ?_
                        refine Eq.trans (jr_ic0 jF_93_10 (by decide +kernel)) ?_
                        refine Eq.trans (jr_s (pc2 := 14) (lv2 := [(0, .ref 20), (1, .int 22), (2, .int a2)]) (st2 := [.int a2]) jF_93_13 rfl rfl) ?_
                        refine Eq.trans (jr_if1 jF_93_14 (jk_lt_lt (show (a2 : Int32).toInt < (0 : Int32).toInt by rw [show (0 : Int32).toInt = 0 from by decide]; omega))) ?_
                        refine Eq.trans (jr_s (pc2 := 33) (lv2 := [(0, .ref 20), (1, .int 22), (2, .int a2)]) (st2 := [.int (-1)]) jF_93_32 rfl rfl) ?_
                        exact jr_ri jF_93_33 rfl
                      exact jr_ri jF_92_9 rfl
                    · refine Eq.trans (jr_s (pc2 := 1) (lv2 := [(0, .ref 117), (1, .int 22), (2, .int a2)]) (st2 := [.ref 117]) jF_266_0 rfl rfl) ?_
                      refine Eq.trans (jr_s (pc2 := 2) (lv2 := [(0, .ref 117), (1, .int 22), (2, .int a2)]) (st2 := [.int 22, .ref 117]) jF_266_1 rfl rfl) ?_
                      refine Eq.trans (jr_cV (a := 117) (as := [.int 22]) (rest := []) (v := some (.long 0)) (hp2 := jh2) (fr2 := 499) (lo2 := 19979) jF_266_2 (by decide +kernel) rfl (show j_cnd 500 20000 499 19979 2 _ _ = true from rfl) ?_) ?_
                      · refine Eq.trans (jr_s (pc2 := 1) (lv2 := [(0, .ref 117), (1, .int 22)]) (st2 := [.int 22]) jF_267_0 rfl rfl) ?_
                        refine Eq.trans (jr_s (pc2 := 2) (lv2 := [(0, .ref 117), (1, .int 22)]) (st2 := [.long 22]) jF_267_1 rfl rfl) ?_
                        refine Eq.trans (jr_s (pc2 := 3) (lv2 := [(0, .ref 117), (1, .int 22)]) (st2 := [.long 0, .long 22]) jF_267_2 rfl rfl) ?_
                        refine Eq.trans (jr_s (pc2 := 6) (lv2 := [(0, .ref 117), (1, .int 22)]) (st2 := [.long 17, .long 0, .long 22]) jF_267_3 rfl rfl) ?_
                        refine Eq.trans (jr_cS (as := [.long 22, .long 0, .long 17]) (rest := []) (v := some (.int 0)) (hp2 := jh2) (fr2 := 498) (lo2 := 19954) jF_267_6 rfl (show j_cnd 499 19979 498 19954 6 _ _ = true from rfl) ?_) ?_
                        · refine Eq.trans (jr_s (pc2 := 1) (lv2 := [(0, .long 22), (2, .long 0), (4, .long 17)]) (st2 := [.long 22]) jF_232_0 rfl rfl) ?_
                          refine Eq.trans (jr_s (pc2 := 2) (lv2 := [(0, .long 22), (2, .long 0), (4, .long 17)]) (st2 := [.long 0, .long 22]) jF_232_1 rfl rfl) ?_
                          refine Eq.trans (jr_s (pc2 := 3) (lv2 := [(0, .long 22), (2, .long 0), (4, .long 17)]) (st2 := [.int 1]) jF_232_2 rfl rfl) ?_
                          refine Eq.trans (jr_if0 jF_232_3 (by decide +kernel)) ?_
                          refine Eq.trans (jr_s (pc2 := 7) (lv2 := [(0, .long 22), (2, .long 0), (4, .long 17)]) (st2 := [.long 22]) jF_232_6 rfl rfl) ?_
                          refine Eq.trans (jr_s (pc2 := 9) (lv2 := [(0, .long 22), (2, .long 0), (4, .long 17)]) (st2 := [.long 17, .long 22]) jF_232_7 rfl rfl) ?_
                          refine Eq.trans (jr_s (pc2 := 10) (lv2 := [(0, .long 22), (2, .long 0), (4, .long 17)]) (st2 := [.int 1]) jF_232_9 rfl rfl) ?_
                          refine Eq.trans (jr_if1 jF_232_10 (by decide +kernel)) ?_
                          refine Eq.trans (jr_s (pc2 := 18) (lv2 := [(0, .long 22), (2, .long 0), (4, .long 17)]) (st2 := [.int 0]) jF_232_17 rfl rfl) ?_
                          exact jr_ri jF_232_18 rfl
                        refine Eq.trans (jr_if1 jF_267_9 (by decide +kernel)) ?_
                        refine Eq.trans (jr_s (pc2 := 23) (lv2 := [(0, .ref 117), (1, .int 22)]) (st2 := [.int 22]) jF_267_22 rfl rfl) ?_
                        refine Eq.trans (jr_s (pc2 := 25) (lv2 := [(0, .ref 117), (1, .int 22)]) (st2 := [.int 20, .int 22]) jF_267_23 rfl rfl) ?_
                        refine Eq.trans (jr_s (pc2 := 26) (lv2 := [(0, .ref 117), (1, .int 22)]) (st2 := [.int 2]) jF_267_25 rfl rfl) ?_
                        refine Eq.trans (jr_s (pc2 := 27) (lv2 := [(0, .ref 117), (1, .int 22)]) (st2 := [.long 2]) jF_267_26 rfl rfl) ?_
                        refine Eq.trans (jr_s (pc2 := 28) (lv2 := [(0, .ref 117), (1, .int 22)]) (st2 := [.long 0, .long 2]) jF_267_27 rfl rfl) ?_
                        refine Eq.trans (jr_s (pc2 := 29) (lv2 := [(0, .ref 117), (1, .int 22)]) (st2 := [.ref 117, .long 0, .long 2]) jF_267_28 rfl rfl) ?_
                        refine Eq.trans (jr_gf (v := .int 0) jF_267_29 (by decide +kernel)) ?_
                        refine Eq.trans (jr_s (pc2 := 33) (lv2 := [(0, .ref 117), (1, .int 22)]) (st2 := [.int 1, .int 0, .long 0, .long 2]) jF_267_32 rfl rfl) ?_
                        refine Eq.trans (jr_s (pc2 := 34) (lv2 := [(0, .ref 117), (1, .int 22)]) (st2 := [.int (-1), .long 0, .long 2]) jF_267_33 rfl rfl) ?_
                        refine Eq.trans (jr_s (pc2 := 35) (lv2 := [(0, .ref 117), (1, .int 22)]) (st2 := [.long (-1), .long 0, .long 2]) jF_267_34 rfl rfl) ?_
                        refine Eq.trans (jr_cS (as := [.long 2, .long 0, .long (-1)]) (rest := []) (v := some (.int 0)) (hp2 := jh2) (fr2 := 498) (lo2 := 19954) jF_267_35 rfl (show j_cnd 499 19979 498 19954 6 _ _ = true from rfl) ?_) ?_
                        · refine Eq.trans (jr_s (pc2 := 1) (lv2 := [(0, .long 2), (2, .long 0), (4, .long (-1))]) (st2 := [.long 2]) jF_232_0 rfl rfl) ?_
                          refine Eq.trans (jr_s (pc2 := 2) (lv2 := [(0, .long 2), (2, .long 0), (4, .long (-1))]) (st2 := [.long 0, .long 2]) jF_232_1 rfl rfl) ?_
                          refine Eq.trans (jr_s (pc2 := 3) (lv2 := [(0, .long 2), (2, .long 0), (4, .long (-1))]) (st2 := [.int 1]) jF_232_2 rfl rfl) ?_
                          refine Eq.trans (jr_if0 jF_232_3 (by decide +kernel)) ?_
                          refine Eq.trans (jr_s (pc2 := 7) (lv2 := [(0, .long 2), (2, .long 0), (4, .long (-1))]) (st2 := [.long 2]) jF_232_6 rfl rfl) ?_
                          refine Eq.trans (jr_s (pc2 := 9) (lv2 := [(0, .long 2), (2, .long 0), (4, .long (-1))]) (st2 := [.long (-1), .long 2]) jF_232_7 rfl rfl) ?_
                          refine Eq.trans (jr_s (pc2 := 10) (lv2 := [(0, .long 2), (2, .long 0), (4, .long (-1))]) (st2 := [.int 1]) jF_232_9 rfl rfl) ?_
                          refine Eq.trans (jr_if1 jF_232_10 (by decide +kernel)) ?_
                          refine Eq.trans (jr_s (pc2 := 18) (lv2 := [(0, .long 2), (2, .long 0), (4, .long (-1))]) (st2 := [.int 0]) jF_232_17 rfl rfl) ?_
                          exact jr_ri jF_232_18 rfl
                        refine Eq.trans (jr_if1 jF_267_38 (by decide +kernel)) ?_
                        refine Eq.trans (jr_s (pc2 := 56) (lv2 := [(0, .ref 117), (1, .int 22)]) (st2 := [.long 0]) jF_267_55 rfl rfl) ?_
                        exact jr_rl jF_267_56
                      refine Eq.trans (jr_s (pc2 := 6) (lv2 := [(3, .long 0), (0, .ref 117), (1, .int 22), (2, .int a2)]) (st2 := []) jF_266_5 rfl rfl) ?_
                      refine Eq.trans (jr_s (pc2 := 7) (lv2 := [(3, .long 0), (0, .ref 117), (1, .int 22), (2, .int a2)]) (st2 := [.long 0]) jF_266_6 rfl rfl) ?_
                      refine Eq.trans (jr_s (pc2 := 8) (lv2 := [(3, .long 0), (0, .ref 117), (1, .int 22), (2, .int a2)]) (st2 := [.long 0, .long 0]) jF_266_7 rfl rfl) ?_
                      refine Eq.trans (jr_s (pc2 := 9) (lv2 := [(3, .long 0), (0, .ref 117), (1, .int 22), (2, .int a2)]) (st2 := [.int 0]) jF_266_8 rfl rfl) ?_
                      refine Eq.trans (jr_if1 jF_266_9 (by decide +kernel)) ?_
                      refine Eq.trans (jr_s (pc2 := 25) (lv2 := [(3, .long 0), (0, .ref 117), (1, .int 22), (2, .int a2)]) (st2 := [.int (-1)]) jF_266_24 rfl rfl) ?_
                      exact jr_ri jF_266_25 rfl
                  · rcases j_ilt a1.toInt 24 with h_a1_24 | h_a1_24
                    · obtain rfl : a1 = 23 := Int32.toInt_inj.mp (by rw [show (23 : Int32).toInt = 23 from by decide]; omega)
                      refine ⟨60000, 60000, (-1), jh2, jh2, ?_, ?_, by decide +kernel⟩
                      · refine Eq.trans (jr_s (pc2 := 1) (lv2 := [(0, .ref 9), (1, .int 23), (2, .int a2)]) (st2 := [.ref 9]) jF_92_0 rfl rfl) ?_
                        refine Eq.trans (jr_gf (v := .ref 20) jF_92_1 (by decide +kernel)) ?_
                        refine Eq.trans (jr_s (pc2 := 5) (lv2 := [(0, .ref 9), (1, .int 23), (2, .int a2)]) (st2 := [.int 23, .ref 20]) jF_92_4 rfl rfl) ?_
                        refine Eq.trans (jr_s (pc2 := 6) (lv2 := [(0, .ref 9), (1, .int 23), (2, .int a2)]) (st2 := [.int a2, .int 23, .ref 20]) jF_92_5 rfl rfl) ?_
                        refine Eq.trans (jr_cV (a := 20) (as := [.int 23, .int a2]) (rest := []) (v := some (.int (-1))) (hp2 := jh2) (fr2 := 499) (lo2 := 19978) jF_92_6 (by decide +kernel) rfl (show j_cnd 500 20000 499 19978 3 _ _ = true from rfl) ?_) ?_
                        · refine Eq.trans (jr_s (pc2 := 1) (lv2 := [(0, .ref 20), (1, .int 23), (2, .int a2)]) (st2 := [.int 23]) jF_93_0 rfl rfl) ?_
                          refine Eq.trans (jr_if0 jF_93_1 (by decide +kernel)) ?_
                          refine Eq.trans (jr_s (pc2 := 5) (lv2 := [(0, .ref 20), (1, .int 23), (2, .int a2)]) (st2 := [.int 23]) jF_93_4 rfl rfl) ?_
                          refine Eq.trans (jr_s (pc2 := 6) (lv2 := [(0, .ref 20), (1, .int 23), (2, .int a2)]) (st2 := [.ref 20, .int 23]) jF_93_5 rfl rfl) ?_
                          refine Eq.trans (jr_gf (v := .ref 21) jF_93_6 (by decide +kernel)) ?_
                          refine Eq.trans (jr_al (v := 25) jF_93_9 (by decide +kernel)) ?_
                          refine Eq.trans (jr_ic0 jF_93_10 (by decide +kernel)) ?_
                          refine Eq.trans (jr_s (pc2 := 14) (lv2 := [(0, .ref 20), (1, .int 23), (2, .int a2)]) (st2 := [.int a2]) jF_93_13 rfl rfl) ?_
                          refine Eq.trans (jr_if1 jF_93_14 (jk_lt_lt (show (a2 : Int32).toInt < (0 : Int32).toInt by rw [show (0 : Int32).toInt = 0 from by decide]; omega))) ?_
                          refine Eq.trans (jr_s (pc2 := 33) (lv2 := [(0, .ref 20), (1, .int 23), (2, .int a2)]) (st2 := [.int (-1)]) jF_93_32 rfl rfl) ?_
                          exact jr_ri jF_93_33 rfl
                        exact jr_ri jF_92_9 rfl
                      · refine Eq.trans (jr_s (pc2 := 1) (lv2 := [(0, .ref 117), (1, .int 23), (2, .int a2)]) (st2 := [.ref 117]) jF_266_0 rfl rfl) ?_
                        refine Eq.trans (jr_s (pc2 := 2) (lv2 := [(0, .ref 117), (1, .int 23), (2, .int a2)]) (st2 := [.int 23, .ref 117]) jF_266_1 rfl rfl) ?_
                        refine Eq.trans (jr_cV (a := 117) (as := [.int 23]) (rest := []) (v := some (.long 0)) (hp2 := jh2) (fr2 := 499) (lo2 := 19979) jF_266_2 (by decide +kernel) rfl (show j_cnd 500 20000 499 19979 2 _ _ = true from rfl) ?_) ?_
                        · refine Eq.trans (jr_s (pc2 := 1) (lv2 := [(0, .ref 117), (1, .int 23)]) (st2 := [.int 23]) jF_267_0 rfl rfl) ?_
                          refine Eq.trans (jr_s (pc2 := 2) (lv2 := [(0, .ref 117), (1, .int 23)]) (st2 := [.long 23]) jF_267_1 rfl rfl) ?_
                          refine Eq.trans (jr_s (pc2 := 3) (lv2 := [(0, .ref 117), (1, .int 23)]) (st2 := [.long 0, .long 23]) jF_267_2 rfl rfl) ?_
                          refine Eq.trans (jr_s (pc2 := 6) (lv2 := [(0, .ref 117), (1, .int 23)]) (st2 := [.long 17, .long 0, .long 23]) jF_267_3 rfl rfl) ?_
                          refine Eq.trans (jr_cS (as := [.long 23, .long 0, .long 17]) (rest := []) (v := some (.int 0)) (hp2 := jh2) (fr2 := 498) (lo2 := 19954) jF_267_6 rfl (show j_cnd 499 19979 498 19954 6 _ _ = true from rfl) ?_) ?_
                          · refine Eq.trans (jr_s (pc2 := 1) (lv2 := [(0, .long 23), (2, .long 0), (4, .long 17)]) (st2 := [.long 23]) jF_232_0 rfl rfl) ?_
                            refine Eq.trans (jr_s (pc2 := 2) (lv2 := [(0, .long 23), (2, .long 0), (4, .long 17)]) (st2 := [.long 0, .long 23]) jF_232_1 rfl rfl) ?_
                            refine Eq.trans (jr_s (pc2 := 3) (lv2 := [(0, .long 23), (2, .long 0), (4, .long 17)]) (st2 := [.int 1]) jF_232_2 rfl rfl) ?_
                            refine Eq.trans (jr_if0 jF_232_3 (by decide +kernel)) ?_
                            refine Eq.trans (jr_s (pc2 := 7) (lv2 := [(0, .long 23), (2, .long 0), (4, .long 17)]) (st2 := [.long 23]) jF_232_6 rfl rfl) ?_
                            refine Eq.trans (jr_s (pc2 := 9) (lv2 := [(0, .long 23), (2, .long 0), (4, .long 17)]) (st2 := [.long 17, .long 23]) jF_232_7 rfl rfl) ?_
                            refine Eq.trans (jr_s (pc2 := 10) (lv2 := [(0, .long 23), (2, .long 0), (4, .long 17)]) (st2 := [.int 1]) jF_232_9 rfl rfl) ?_
                            refine Eq.trans (jr_if1 jF_232_10 (by decide +kernel)) ?_
                            refine Eq.trans (jr_s (pc2 := 18) (lv2 := [(0, .long 23), (2, .long 0), (4, .long 17)]) (st2 := [.int 0]) jF_232_17 rfl rfl) ?_
                            exact jr_ri jF_232_18 rfl
                          refine Eq.trans (jr_if1 jF_267_9 (by decide +kernel)) ?_
                          refine Eq.trans (jr_s (pc2 := 23) (lv2 := [(0, .ref 117), (1, .int 23)]) (st2 := [.int 23]) jF_267_22 rfl rfl) ?_
                          refine Eq.trans (jr_s (pc2 := 25) (lv2 := [(0, .ref 117), (1, .int 23)]) (st2 := [.int 20, .int 23]) jF_267_23 rfl rfl) ?_
                          refine Eq.trans (jr_s (pc2 := 26) (lv2 := [(0, .ref 117), (1, .int 23)]) (st2 := [.int 3]) jF_267_25 rfl rfl) ?_
                          refine Eq.trans (jr_s (pc2 := 27) (lv2 := [(0, .ref 117), (1, .int 23)]) (st2 := [.long 3]) jF_267_26 rfl rfl) ?_
                          refine Eq.trans (jr_s (pc2 := 28) (lv2 := [(0, .ref 117), (1, .int 23)]) (st2 := [.long 0, .long 3]) jF_267_27 rfl rfl) ?_
                          refine Eq.trans (jr_s (pc2 := 29) (lv2 := [(0, .ref 117), (1, .int 23)]) (st2 := [.ref 117, .long 0, .long 3]) jF_267_28 rfl rfl) ?_
                          refine Eq.trans (jr_gf (v := .int 0) jF_267_29 (by decide +kernel)) ?_
                          refine Eq.trans (jr_s (pc2 := 33) (lv2 := [(0, .ref 117), (1, .int 23)]) (st2 := [.int 1, .int 0, .long 0, .long 3]) jF_267_32 rfl rfl) ?_
                          refine Eq.trans (jr_s (pc2 := 34) (lv2 := [(0, .ref 117), (1, .int 23)]) (st2 := [.int (-1), .long 0, .long 3]) jF_267_33 rfl rfl) ?_
                          refine Eq.trans (jr_s (pc2 := 35) (lv2 := [(0, .ref 117), (1, .int 23)]) (st2 := [.long (-1), .long 0, .long 3]) jF_267_34 rfl rfl) ?_
                          refine Eq.trans (jr_cS (as := [.long 3, .long 0, .long (-1)]) (rest := []) (v := some (.int 0)) (hp2 := jh2) (fr2 := 498) (lo2 := 19954) jF_267_35 rfl (show j_cnd 499 19979 498 19954 6 _ _ = true from rfl) ?_) ?_
                          · refine Eq.trans (jr_s (pc2 := 1) (lv2 := [(0, .long 3), (2, .long 0), (4, .long (-1))]) (st2 := [.long 3]) jF_232_0 rfl rfl) ?_
                            refine Eq.trans (jr_s (pc2 := 2) (lv2 := [(0, .long 3), (2, .long 0), (4, .long (-1))]) (st2 := [.long 0, .long 3]) jF_232_1 rfl rfl) ?_
                            refine Eq.trans (jr_s (pc2 := 3) (lv2 := [(0, .long 3), (2, .long 0), (4, .long (-1))]) (st2 := [.int 1]) jF_232_2 rfl rfl) ?_
                            refine Eq.trans (jr_if0 jF_232_3 (by decide +kernel)) ?_
                            refine Eq.trans (jr_s (pc2 := 7) (lv2 := [(0, .long 3), (2, .long 0), (4, .long (-1))]) (st2 := [.long 3]) jF_232_6 rfl rfl) ?_
                            refine Eq.trans (jr_s (pc2 := 9) (lv2 := [(0, .long 3), (2, .long 0), (4, .long (-1))]) (st2 := [.long (-1), .long 3]) jF_232_7 rfl rfl) ?_
                            refine Eq.trans (jr_s (pc2 := 10) (lv2 := [(0, .long 3), (2, .long 0), (4, .long (-1))]) (st2 := [.int 1]) jF_232_9 rfl rfl) ?_
                            refine Eq.trans (jr_if1 jF_232_10 (by decide +kernel)) ?_
                            refine Eq.trans (jr_s (pc2 := 18) (lv2 := [(0, .long 3), (2, .long 0), (4, .long (-1))]) (st2 := [.int 0]) jF_232_17 rfl rfl) ?_
                            exact jr_ri jF_232_18 rfl
                          refine Eq.trans (jr_if1 jF_267_38 (by decide +kernel)) ?_
                          refine Eq.trans (jr_s (pc2 := 56) (lv2 := [(0, .ref 117), (1, .int 23)]) (st2 := [.long 0]) jF_267_55 rfl rfl) ?_
                          exact jr_rl jF_267_56
                        refine Eq.trans (jr_s (pc2 := 6) (lv2 := [(3, .long 0), (0, .ref 117), (1, .int 23), (2, .int a2)]) (st2 := []) jF_266_5 rfl rfl) ?_
                        refine Eq.trans (jr_s (pc2 := 7) (lv2 := [(3, .long 0), (0, .ref 117), (1, .int 23), (2, .int a2)]) (st2 := [.long 0]) jF_266_6 rfl rfl) ?_
                        refine Eq.trans (jr_s (pc2 := 8) (lv2 := [(3, .long 0), (0, .ref 117), (1, .int 23), (2, .int a2)]) (st2 := [.long 0, .long 0]) jF_266_7 rfl rfl) ?_
                        refine Eq.trans (jr_s (pc2 := 9) (lv2 := [(3, .long 0), (0, .ref 117), (1, .int 23), (2, .int a2)]) (st2 := [.int 0]) jF_266_8 rfl rfl) ?_
                        refine Eq.trans (jr_if1 jF_266_9 (by decide +kernel)) ?_
                        refine Eq.trans (jr_s (pc2 := 25) (lv2 := [(3, .long 0), (0, .ref 117), (1, .int 23), (2, .int a2)]) (st2 := [.int (-1)]) jF_266_24 rfl rfl) ?_
                        exact jr_ri jF_266_25 rfl
                    · obtain rfl : a1 = 24 := Int32.toInt_inj.mp (by rw [show (24 : Int32).toInt = 24 from by decide]; omega)
                      refine ⟨60000, 60000, (-1), jh2, jh2, ?_, ?_, by decide +kernel⟩
                      · refine Eq.trans (jr_s (pc2 := 1) (lv2 := [(0, .ref 9), (1, .int 24), (2, .int a2)]) (st2 := [.ref 9]) jF_92_0 rfl rfl) ?_
                        refine Eq.trans (jr_gf (v := .ref 20) jF_92_1 (by decide +kernel)) ?_
                        refine Eq.trans (jr_s (pc2 := 5) (lv2 := [(0, .ref 9), (1, .int 24), (2, .int a2)]) (st2 := [.int 24, .ref 20]) jF_92_4 rfl rfl) ?_
                        refine Eq.trans (jr_s (pc2 := 6) (lv2 := [(0, .ref 9), (1, .int 24), (2, .int a2)]) (st2 := [.int a2, .int 24, .ref 20]) jF_92_5 rfl rfl) ?_
                        refine Eq.trans (jr_cV (a := 20) (as := [.int 24, .int a2]) (rest := []) (v := some (.int (-1))) (hp2 := jh2) (fr2 := 499) (lo2 := 19978) jF_92_6 (by decide +kernel) rfl (show j_cnd 500 20000 499 19978 3 _ _ = true from rfl) ?_) ?_
                        · refine Eq.trans (jr_s (pc2 := 1) (lv2 := [(0, .ref 20), (1, .int 24), (2, .int a2)]) (st2 := [.int 24]) jF_93_0 rfl rfl) ?_
                          refine Eq.trans (jr_if0 jF_93_1 (by decide +kernel)) ?_
                          refine Eq.trans (jr_s (pc2 := 5) (lv2 := [(0, .ref 20), (1, .int 24), (2, .int a2)]) (st2 := [.int 24]) jF_93_4 rfl rfl) ?_
                          refine Eq.trans (jr_s (pc2 := 6) (lv2 := [(0, .ref 20), (1, .int 24), (2, .int a2)]) (st2 := [.ref 20, .int 24]) jF_93_5 rfl rfl) ?_
                          refine Eq.trans (jr_gf (v := .ref 21) jF_93_6 (by decide +kernel)) ?_
                          refine Eq.trans (jr_al (v := 25) jF_93_9 (by decide +kernel)) ?_
                          refine Eq.trans (jr_ic0 jF_93_10 (by decide +kernel)) ?_
                          refine Eq.trans (jr_s (pc2 := 14) (lv2 := [(0, .ref 20), (1, .int 24), (2, .int a2)]) (st2 := [.int a2]) jF_93_13 rfl rfl) ?_
                          refine Eq.trans (jr_if1 jF_93_14 (jk_lt_lt (show (a2 : Int32).toInt < (0 : Int32).toInt by rw [show (0 : Int32).toInt = 0 from by decide]; omega))) ?_
                          refine Eq.trans (jr_s (pc2 := 33) (lv2 := [(0, .ref 20), (1, .int 24), (2, .int a2)]) (st2 := [.int (-1)]) jF_93_32 rfl rfl) ?_
                          exact jr_ri jF_93_33 rfl
                        exact jr_ri jF_92_9 rfl
                      · refine Eq.trans (jr_s (pc2 := 1) (lv2 := [(0, .ref 117), (1, .int 24), (2, .int a2)]) (st2 := [.ref 117]) jF_266_0 rfl rfl) ?_
                        refine Eq.trans (jr_s (pc2 := 2) (lv2 := [(0, .ref 117), (1, .int 24), (2, .int a2)]) (st2 := [.int 24, .ref 117]) jF_266_1 rfl rfl) ?_
                        refine Eq.trans (jr_cV (a := 117) (as := [.int 24]) (rest := []) (v := some (.long 0)) (hp2 := jh2) (fr2 := 499) (lo2 := 19979) jF_266_2 (by decide +kernel) rfl (show j_cnd 500 20000 499 19979 2 _ _ = true from rfl) ?_) ?_
                        · refine Eq.trans (jr_s (pc2 := 1) (lv2 := [(0, .ref 117), (1, .int 24)]) (st2 := [.int 24]) jF_267_0 rfl rfl) ?_
                          refine Eq.trans (jr_s (pc2 := 2) (lv2 := [(0, .ref 117), (1, .int 24)]) (st2 := [.long 24]) jF_267_1 rfl rfl) ?_
                          refine Eq.trans (jr_s (pc2 := 3) (lv2 := [(0, .ref 117), (1, .int 24)]) (st2 := [.long 0, .long 24]) jF_267_2 rfl rfl) ?_
                          refine Eq.trans (jr_s (pc2 := 6) (lv2 := [(0, .ref 117), (1, .int 24)]) (st2 := [.long 17, .long 0, .long 24]) jF_267_3 rfl rfl) ?_
                          refine Eq.trans (jr_cS (as := [.long 24, .long 0, .long 17]) (rest := []) (v := some (.int 0)) (hp2 := jh2) (fr2 := 498) (lo2 := 19954) jF_267_6 rfl (show j_cnd 499 19979 498 19954 6 _ _ = true from rfl) ?_) ?_
                          · refine Eq.trans (jr_s (pc2 := 1) (lv2 := [(0, .long 24), (2, .long 0), (4, .long 17)]) (st2 := [.long 24]) jF_232_0 rfl rfl) ?_
                            refine Eq.trans (jr_s (pc2 := 2) (lv2 := [(0, .long 24), (2, .long 0), (4, .long 17)]) (st2 := [.long 0, .long 24]) jF_232_1 rfl rfl) ?_
                            refine Eq.trans (jr_s (pc2 := 3) (lv2 := [(0, .long 24), (2, .long 0), (4, .long 17)]) (st2 := [.int 1]) jF_232_2 rfl rfl) ?_
                            refine Eq.trans (jr_if0 jF_232_3 (by decide +kernel)) ?_
                            refine Eq.trans (jr_s (pc2 := 7) (lv2 := [(0, .long 24), (2, .long 0), (4, .long 17)]) (st2 := [.long 24]) jF_232_6 rfl rfl) ?_
                            refine Eq.trans (jr_s (pc2 := 9) (lv2 := [(0, .long 24), (2, .long 0), (4, .long 17)]) (st2 := [.long 17, .long 24]) jF_232_7 rfl rfl) ?_
                            refine Eq.trans (jr_s (pc2 := 10) (lv2 := [(0, .long 24), (2, .long 0), (4, .long 17)]) (st2 := [.int 1]) jF_232_9 rfl rfl) ?_
                            refine Eq.trans (jr_if1 jF_232_10 (by decide +kernel)) ?_
                            refine Eq.trans (jr_s (pc2 := 18) (lv2 := [(0, .long 24), (2, .long 0), (4, .long 17)]) (st2 := [.int 0]) jF_232_17 rfl rfl) ?_
                            exact jr_ri jF_232_18 rfl
                          refine Eq.trans (jr_if1 jF_267_9 (by decide +kernel)) ?_
                          refine Eq.trans (jr_s (pc2 := 23) (lv2 := [(0, .ref 117), (1, .int 24)]) (st2 := [.int 24]) jF_267_22 rfl rfl) ?_
                          refine Eq.trans (jr_s (pc2 := 25) (lv2 := [(0, .ref 117), (1, .int 24)]) (st2 := [.int 20, .int 24]) jF_267_23 rfl rfl) ?_
                          refine Eq.trans (jr_s (pc2 := 26) (lv2 := [(0, .ref 117), (1, .int 24)]) (st2 := [.int 4]) jF_267_25 rfl rfl) ?_
                          refine Eq.trans (jr_s (pc2 := 27) (lv2 := [(0, .ref 117), (1, .int 24)]) (st2 := [.long 4]) jF_267_26 rfl rfl) ?_
                          refine Eq.trans (jr_s (pc2 := 28) (lv2 := [(0, .ref 117), (1, .int 24)]) (st2 := [.long 0, .long 4]) jF_267_27 rfl rfl) ?_
                          refine Eq.trans (jr_s (pc2 := 29) (lv2 := [(0, .ref 117), (1, .int 24)]) (st2 := [.ref 117, .long 0, .long 4]) jF_267_28 rfl rfl) ?_
                          refine Eq.trans (jr_gf (v := .int 0) jF_267_29 (by decide +kernel)) ?_
                          refine Eq.trans (jr_s (pc2 := 33) (lv2 := [(0, .ref 117), (1, .int 24)]) (st2 := [.int 1, .int 0, .long 0, .long 4]) jF_267_32 rfl rfl) ?_
                          refine Eq.trans (jr_s (pc2 := 34) (lv2 := [(0, .ref 117), (1, .int 24)]) (st2 := [.int (-1), .long 0, .long 4]) jF_267_33 rfl rfl) ?_
                          refine Eq.trans (jr_s (pc2 := 35) (lv2 := [(0, .ref 117), (1, .int 24)]) (st2 := [.long (-1), .long 0, .long 4]) jF_267_34 rfl rfl) ?_
                          refine Eq.trans (jr_cS (as := [.long 4, .long 0, .long (-1)]) (rest := []) (v := some (.int 0)) (hp2 := jh2) (fr2 := 498) (lo2 := 19954) jF_267_35 rfl (show j_cnd 499 19979 498 19954 6 _ _ = true from rfl) ?_) ?_
                          · refine Eq.trans (jr_s (pc2 := 1) (lv2 := [(0, .long 4), (2, .long 0), (4, .long (-1))]) (st2 := [.long 4]) jF_232_0 rfl rfl) ?_
                            refine Eq.trans (jr_s (pc2 := 2) (lv2 := [(0, .long 4), (2, .long 0), (4, .long (-1))]) (st2 := [.long 0, .long 4]) jF_232_1 rfl rfl) ?_
                            refine Eq.trans (jr_s (pc2 := 3) (lv2 := [(0, .long 4), (2, .long 0), (4, .long (-1))]) (st2 := [.int 1]) jF_232_2 rfl rfl) ?_
                            refine Eq.trans (jr_if0 jF_232_3 (by decide +kernel)) ?_
                            refine Eq.trans (jr_s (pc2 := 7) (lv2 := [(0, .long 4), (2, .long 0), (4, .long (-1))]) (st2 := [.long 4]) jF_232_6 rfl rfl) ?_
                            refine Eq.trans (jr_s (pc2 := 9) (lv2 := [(0, .long 4), (2, .long 0), (4, .long (-1))]) (st2 := [.long (-1), .long 4]) jF_232_7 rfl rfl) ?_
                            refine Eq.trans (jr_s (pc2 := 10) (lv2 := [(0, .long 4), (2, .long 0), (4, .long (-1))]) (st2 := [.int 1]) jF_232_9 rfl rfl) ?_
                            refine Eq.trans (jr_if1 jF_232_10 (by decide +kernel)) ?_
                            refine Eq.trans (jr_s (pc2 := 18) (lv2 := [(0, .long 4), (2, .long 0), (4, .long (-1))]) (st2 := [.int 0]) jF_232_17 rfl rfl) ?_
                            exact jr_ri jF_232_18 rfl
                          refine Eq.trans (jr_if1 jF_267_38 (by decide +kernel)) ?_
                          refine Eq.trans (jr_s (pc2 := 56) (lv2 := [(0, .ref 117), (1, .int 24)]) (st2 := [.long 0]) jF_267_55 rfl rfl) ?_
                          exact jr_rl jF_267_56
                        refine Eq.trans (jr_s (pc2 := 6) (lv2 := [(3, .long 0), (0, .ref 117), (1, .int 24), (2, .int a2)]) (st2 := []) jF_266_5 rfl rfl) ?_
                        refine Eq.trans (jr_s (pc2 := 7) (lv2 := [(3, .long 0), (0, .ref 117), (1, .int 24), (2, .int a2)]) (st2 := [.long 0]) jF_266_6 rfl rfl) ?_
                        refine Eq.trans (jr_s (pc2 := 8) (lv2 := [(3, .long 0), (0, .ref 117), (1, .int 24), (2, .int a2)]) (st2 := [.long 0, .long 0]) jF_266_7 rfl rfl) ?_
                        refine Eq.trans (jr_s (pc2 := 9) (lv2 := [(3, .long 0), (0, .ref 117), (1, .int 24), (2, .int a2)]) (st2 := [.int 0]) jF_266_8 rfl rfl) ?_
                        refine Eq.trans (jr_if1 jF_266_9 (by decide +kernel)) ?_
                        refine Eq.trans (jr_s (pc2 := 25) (lv2 := [(3, .long 0), (0, .ref 117), (1, .int 24), (2, .int a2)]) (st2 := [.int (-1)]) jF_266_24 rfl rfl) ?_
                        exact jr_ri jF_266_25 rfl
      · rcases j_ilt a2.toInt 6 with h_a2_6 | h_a2_6
        · rcases j_ilt a1.toInt 1 with h_a1_1 | h_a1_1
          · obtain rfl : a1 = 0 := Int32.toInt_inj.mp (by rw [show (0 : Int32).toInt = 0 from by decide]; omega)
            refine ⟨60000, 60000, (-1), jh2, jh2, ?_, ?_, by decide +kernel⟩
            · refine Eq.trans (jr_s (pc2 := 1) (lv2 := [(0, .ref 9), (1, .int 0), (2, .int a2)]) (st2 := [.ref 9]) jF_92_0 rfl rfl) ?_
              refine Eq.trans (jr_gf (v := .ref 20) jF_92_1 (by decide +kernel)) ?_
              refine Eq.trans (jr_s (pc2 := 5) (lv2 := [(0, .ref 9), (1, .int 0), (2, .int a2)]) (st2 := [.int 0, .ref 20]) jF_92_4 rfl rfl) ?_
              refine Eq.trans (jr_s (pc2 := 6) (lv2 := [(0, .ref 9), (1, .int 0), (2, .int a2)]) (st2 := [.int a2, .int 0, .ref 20]) jF_92_5 rfl rfl) ?_
              refine Eq.trans (jr_cV (a := 20) (as := [.int 0, .int a2]) (rest := []) (v := some (.int (-1))) (hp2 := jh2) (fr2 := 499) (lo2 := 19978) jF_92_6 (by decide +kernel) rfl (show j_cnd 500 20000 499 19978 3 _ _ = true from rfl) ?_) ?_
              · refine Eq.trans (jr_s (pc2 := 1) (lv2 := [(0, .ref 20), (1, .int 0), (2, .int a2)]) (st2 := [.int 0]) jF_93_0 rfl rfl) ?_
                refine Eq.trans (jr_if0 jF_93_1 (by decide +kernel)) ?_
                refine Eq.trans (jr_s (pc2 := 5) (lv2 := [(0, .ref 20), (1, .int 0), (2, .int a2)]) (st2 := [.int 0]) jF_93_4 rfl rfl) ?_
                refine Eq.trans (jr_s (pc2 := 6) (lv2 := [(0, .ref 20), (1, .int 0), (2, .int a2)]) (st2 := [.ref 20, .int 0]) jF_93_5 rfl rfl) ?_
                refine Eq.trans (jr_gf (v := .ref 21) jF_93_6 (by decide +kernel)) ?_
                refine Eq.trans (jr_al (v := 25) jF_93_9 (by decide +kernel)) ?_
                refine Eq.trans (jr_ic0 jF_93_10 (by decide +kernel)) ?_
                refine Eq.trans (jr_s (pc2 := 14) (lv2 := [(0, .ref 20), (1, .int 0), (2, .int a2)]) (st2 := [.int a2]) jF_93_13 rfl rfl) ?_
                refine Eq.trans (jr_if0 jF_93_14 (jk_lt_ge (show (0 : Int32).toInt ≤ (a2 : Int32).toInt by rw [show (0 : Int32).toInt = 0 from by decide]; omega))) ?_
                refine Eq.trans (jr_s (pc2 := 18) (lv2 := [(0, .ref 20), (1, .int 0), (2, .int a2)]) (st2 := [.int a2]) jF_93_17 rfl rfl) ?_
                refine Eq.trans (jr_s (pc2 := 20) (lv2 := [(0, .ref 20), (1, .int 0), (2, .int a2)]) (st2 := [.int 6, .int a2]) jF_93_18 rfl rfl) ?_
                refine Eq.trans (jr_ic0 jF_93_20 (jk_ge_lt (show (a2 : Int32).toInt < (6 : Int32).toInt by rw [show (6 : Int32).toInt = 6 from by decide]; omega))) ?_
                refine Eq.trans (jr_s (pc2 := 24) (lv2 := [(0, .ref 20), (1, .int 0), (2, .int a2)]) (st2 := [.ref 20]) jF_93_23 rfl rfl) ?_
                refine Eq.trans (jr_gf (v := .ref 21) jF_93_24 (by decide +kernel)) ?_
                refine Eq.trans (jr_s (pc2 := 28) (lv2 := [(0, .ref 20), (1, .int 0), (2, .int a2)]) (st2 := [.int 0, .ref 21]) jF_93_27 rfl rfl) ?_
                refine Eq.trans (jr_ldi (v := .int 0) jF_93_28 (by decide +kernel)) ?_
                refine Eq.trans (jr_if0 jF_93_29 (by decide +kernel)) ?_
                refine Eq.trans (jr_s (pc2 := 33) (lv2 := [(0, .ref 20), (1, .int 0), (2, .int a2)]) (st2 := [.int (-1)]) jF_93_32 rfl rfl) ?_
                exact jr_ri jF_93_33 rfl
              exact jr_ri jF_92_9 rfl
            · refine Eq.trans (jr_s (pc2 := 1) (lv2 := [(0, .ref 117), (1, .int 0), (2, .int a2)]) (st2 := [.ref 117]) jF_266_0 rfl rfl) ?_
              refine Eq.trans (jr_s (pc2 := 2) (lv2 := [(0, .ref 117), (1, .int 0), (2, .int a2)]) (st2 := [.int 0, .ref 117]) jF_266_1 rfl rfl) ?_
              refine Eq.trans (jr_cV (a := 117) (as := [.int 0]) (rest := []) (v := some (.long 0)) (hp2 := jh2) (fr2 := 499) (lo2 := 19979) jF_266_2 (by decide +kernel) rfl (show j_cnd 500 20000 499 19979 2 _ _ = true from rfl) ?_) ?_
              · refine Eq.trans (jr_s (pc2 := 1) (lv2 := [(0, .ref 117), (1, .int 0)]) (st2 := [.int 0]) jF_267_0 rfl rfl) ?_
                refine Eq.trans (jr_s (pc2 := 2) (lv2 := [(0, .ref 117), (1, .int 0)]) (st2 := [.long 0]) jF_267_1 rfl rfl) ?_
                refine Eq.trans (jr_s (pc2 := 3) (lv2 := [(0, .ref 117), (1, .int 0)]) (st2 := [.long 0, .long 0]) jF_267_2 rfl rfl) ?_
                refine Eq.trans (jr_s (pc2 := 6) (lv2 := [(0, .ref 117), (1, .int 0)]) (st2 := [.long 17, .long 0, .long 0]) jF_267_3 rfl rfl) ?_
                refine Eq.trans (jr_cS (as := [.long 0, .long 0, .long 17]) (rest := []) (v := some (.int 1)) (hp2 := jh2) (fr2 := 498) (lo2 := 19954) jF_267_6 rfl (show j_cnd 499 19979 498 19954 6 _ _ = true from rfl) ?_) ?_
                · refine Eq.trans (jr_s (pc2 := 1) (lv2 := [(0, .long 0), (2, .long 0), (4, .long 17)]) (st2 := [.long 0]) jF_232_0 rfl rfl) ?_
                  refine Eq.trans (jr_s (pc2 := 2) (lv2 := [(0, .long 0), (2, .long 0), (4, .long 17)]) (st2 := [.long 0, .long 0]) jF_232_1 rfl rfl) ?_
                  refine Eq.trans (jr_s (pc2 := 3) (lv2 := [(0, .long 0), (2, .long 0), (4, .long 17)]) (st2 := [.int 0]) jF_232_2 rfl rfl) ?_
                  refine Eq.trans (jr_if0 jF_232_3 (by decide +kernel)) ?_
                  refine Eq.trans (jr_s (pc2 := 7) (lv2 := [(0, .long 0), (2, .long 0), (4, .long 17)]) (st2 := [.long 0]) jF_232_6 rfl rfl) ?_
                  refine Eq.trans (jr_s (pc2 := 9) (lv2 := [(0, .long 0), (2, .long 0), (4, .long 17)]) (st2 := [.long 17, .long 0]) jF_232_7 rfl rfl) ?_
                  refine Eq.trans (jr_s (pc2 := 10) (lv2 := [(0, .long 0), (2, .long 0), (4, .long 17)]) (st2 := [.int (-1)]) jF_232_9 rfl rfl) ?_
                  refine Eq.trans (jr_if0 jF_232_10 (by decide +kernel)) ?_
                  refine Eq.trans (jr_s (pc2 := 14) (lv2 := [(0, .long 0), (2, .long 0), (4, .long 17)]) (st2 := [.int 1]) jF_232_13 rfl rfl) ?_
                  refine Eq.trans (jr_s (pc2 := 18) (lv2 := [(0, .long 0), (2, .long 0), (4, .long 17)]) (st2 := [.int 1]) jF_232_14 rfl rfl) ?_
                  exact jr_ri jF_232_18 rfl
                refine Eq.trans (jr_if0 jF_267_9 (by decide +kernel)) ?_
                refine Eq.trans (jr_s (pc2 := 13) (lv2 := [(0, .ref 117), (1, .int 0)]) (st2 := [.ref 117]) jF_267_12 rfl rfl) ?_
                refine Eq.trans (jr_gf (v := .ref 138) jF_267_13 (by decide +kernel)) ?_
                refine Eq.trans (jr_s (pc2 := 18) (lv2 := [(0, .ref 117), (1, .int 0)]) (st2 := [.int 18, .ref 138]) jF_267_16 rfl rfl) ?_
                refine Eq.trans (jr_s (pc2 := 19) (lv2 := [(0, .ref 117), (1, .int 0)]) (st2 := [.int 0, .int 18, .ref 138]) jF_267_18 rfl rfl) ?_
                refine Eq.trans (jr_s (pc2 := 20) (lv2 := [(0, .ref 117), (1, .int 0)]) (st2 := [.int 18, .ref 138]) jF_267_19 rfl rfl) ?_
                refine Eq.trans (jr_ldl (v := .long 0) jF_267_20 (by decide +kernel)) ?_
                exact jr_rl jF_267_21
              refine Eq.trans (jr_s (pc2 := 6) (lv2 := [(3, .long 0), (0, .ref 117), (1, .int 0), (2, .int a2)]) (st2 := []) jF_266_5 rfl rfl) ?_
              refine Eq.trans (jr_s (pc2 := 7) (lv2 := [(3, .long 0), (0, .ref 117), (1, .int 0), (2, .int a2)]) (st2 := [.long 0]) jF_266_6 rfl rfl) ?_
              refine Eq.trans (jr_s (pc2 := 8) (lv2 := [(3, .long 0), (0, .ref 117), (1, .int 0), (2, .int a2)]) (st2 := [.long 0, .long 0]) jF_266_7 rfl rfl) ?_
              refine Eq.trans (jr_s (pc2 := 9) (lv2 := [(3, .long 0), (0, .ref 117), (1, .int 0), (2, .int a2)]) (st2 := [.int 0]) jF_266_8 rfl rfl) ?_
              refine Eq.trans (jr_if1 jF_266_9 (by decide +kernel)) ?_
              refine Eq.trans (jr_s (pc2 := 25) (lv2 := [(3, .long 0), (0, .ref 117), (1, .int 0), (2, .int a2)]) (st2 := [.int (-1)]) jF_266_24 rfl rfl) ?_
              exact jr_ri jF_266_25 rfl
          · rcases j_ilt a1.toInt 2 with h_a1_2 | h_a1_2
            · obtain rfl : a1 = 1 := Int32.toInt_inj.mp (by rw [show (1 : Int32).toInt = 1 from by decide]; omega)
              refine ⟨60000, 60000, (-1), jh2, jh2, ?_, ?_, by decide +kernel⟩
              · refine Eq.trans (jr_s (pc2 := 1) (lv2 := [(0, .ref 9), (1, .int 1), (2, .int a2)]) (st2 := [.ref 9]) jF_92_0 rfl rfl) ?_
                refine Eq.trans (jr_gf (v := .ref 20) jF_92_1 (by decide +kernel)) ?_
                refine Eq.trans (jr_s (pc2 := 5) (lv2 := [(0, .ref 9), (1, .int 1), (2, .int a2)]) (st2 := [.int 1, .ref 20]) jF_92_4 rfl rfl) ?_
                refine Eq.trans (jr_s (pc2 := 6) (lv2 := [(0, .ref 9), (1, .int 1), (2, .int a2)]) (st2 := [.int a2, .int 1, .ref 20]) jF_92_5 rfl rfl) ?_
                refine Eq.trans (jr_cV (a := 20) (as := [.int 1, .int a2]) (rest := []) (v := some (.int (-1))) (hp2 := jh2) (fr2 := 499) (lo2 := 19978) jF_92_6 (by decide +kernel) rfl (show j_cnd 500 20000 499 19978 3 _ _ = true from rfl) ?_) ?_
                · refine Eq.trans (jr_s (pc2 := 1) (lv2 := [(0, .ref 20), (1, .int 1), (2, .int a2)]) (st2 := [.int 1]) jF_93_0 rfl rfl) ?_
                  refine Eq.trans (jr_if0 jF_93_1 (by decide +kernel)) ?_
                  refine Eq.trans (jr_s (pc2 := 5) (lv2 := [(0, .ref 20), (1, .int 1), (2, .int a2)]) (st2 := [.int 1]) jF_93_4 rfl rfl) ?_
                  refine Eq.trans (jr_s (pc2 := 6) (lv2 := [(0, .ref 20), (1, .int 1), (2, .int a2)]) (st2 := [.ref 20, .int 1]) jF_93_5 rfl rfl) ?_
                  refine Eq.trans (jr_gf (v := .ref 21) jF_93_6 (by decide +kernel)) ?_
                  refine Eq.trans (jr_al (v := 25) jF_93_9 (by decide +kernel)) ?_
                  refine Eq.trans (jr_ic0 jF_93_10 (by decide +kernel)) ?_
                  refine Eq.trans (jr_s (pc2 := 14) (lv2 := [(0, .ref 20), (1, .int 1), (2, .int a2)]) (st2 := [.int a2]) jF_93_13 rfl rfl) ?_
                  refine Eq.trans (jr_if0 jF_93_14 (jk_lt_ge (show (0 : Int32).toInt ≤ (a2 : Int32).toInt by rw [show (0 : Int32).toInt = 0 from by decide]; omega))) ?_
                  refine Eq.trans (jr_s (pc2 := 18) (lv2 := [(0, .ref 20), (1, .int 1), (2, .int a2)]) (st2 := [.int a2]) jF_93_17 rfl rfl) ?_
                  refine Eq.trans (jr_s (pc2 := 20) (lv2 := [(0, .ref 20), (1, .int 1), (2, .int a2)]) (st2 := [.int 6, .int a2]) jF_93_18 rfl rfl) ?_
                  refine Eq.trans (jr_ic0 jF_93_20 (jk_ge_lt (show (a2 : Int32).toInt < (6 : Int32).toInt by rw [show (6 : Int32).toInt = 6 from by decide]; omega))) ?_
                  refine Eq.trans (jr_s (pc2 := 24) (lv2 := [(0, .ref 20), (1, .int 1), (2, .int a2)]) (st2 := [.ref 20]) jF_93_23 rfl rfl) ?_
                  refine Eq.trans (jr_gf (v := .ref 21) jF_93_24 (by decide +kernel)) ?_
                  refine Eq.trans (jr_s (pc2 := 28) (lv2 := [(0, .ref 20), (1, .int 1), (2, .int a2)]) (st2 := [.int 1, .ref 21]) jF_93_27 rfl rfl) ?_
                  refine Eq.trans (jr_ldi (v := .int 0) jF_93_28 (by decide +kernel)) ?_
                  refine Eq.trans (jr_if0 jF_93_29 (by decide +kernel)) ?_
                  refine Eq.trans (jr_s (pc2 := 33) (lv2 := [(0, .ref 20), (1, .int 1), (2, .int a2)]) (st2 := [.int (-1)]) jF_93_32 rfl rfl) ?_
                  exact jr_ri jF_93_33 rfl
                exact jr_ri jF_92_9 rfl
              · refine Eq.trans (jr_s (pc2 := 1) (lv2 := [(0, .ref 117), (1, .int 1), (2, .int a2)]) (st2 := [.ref 117]) jF_266_0 rfl rfl) ?_
                refine Eq.trans (jr_s (pc2 := 2) (lv2 := [(0, .ref 117), (1, .int 1), (2, .int a2)]) (st2 := [.int 1, .ref 117]) jF_266_1 rfl rfl) ?_
                refine Eq.trans (jr_cV (a := 117) (as := [.int 1]) (rest := []) (v := some (.long 0)) (hp2 := jh2) (fr2 := 499) (lo2 := 19979) jF_266_2 (by decide +kernel) rfl (show j_cnd 500 20000 499 19979 2 _ _ = true from rfl) ?_) ?_
                · refine Eq.trans (jr_s (pc2 := 1) (lv2 := [(0, .ref 117), (1, .int 1)]) (st2 := [.int 1]) jF_267_0 rfl rfl) ?_
                  refine Eq.trans (jr_s (pc2 := 2) (lv2 := [(0, .ref 117), (1, .int 1)]) (st2 := [.long 1]) jF_267_1 rfl rfl) ?_
                  refine Eq.trans (jr_s (pc2 := 3) (lv2 := [(0, .ref 117), (1, .int 1)]) (st2 := [.long 0, .long 1]) jF_267_2 rfl rfl) ?_
                  refine Eq.trans (jr_s (pc2 := 6) (lv2 := [(0, .ref 117), (1, .int 1)]) (st2 := [.long 17, .long 0, .long 1]) jF_267_3 rfl rfl) ?_
                  refine Eq.trans (jr_cS (as := [.long 1, .long 0, .long 17]) (rest := []) (v := some (.int 1)) (hp2 := jh2) (fr2 := 498) (lo2 := 19954) jF_267_6 rfl (show j_cnd 499 19979 498 19954 6 _ _ = true from rfl) ?_) ?_
                  · refine Eq.trans (jr_s (pc2 := 1) (lv2 := [(0, .long 1), (2, .long 0), (4, .long 17)]) (st2 := [.long 1]) jF_232_0 rfl rfl) ?_
                    refine Eq.trans (jr_s (pc2 := 2) (lv2 := [(0, .long 1), (2, .long 0), (4, .long 17)]) (st2 := [.long 0, .long 1]) jF_232_1 rfl rfl) ?_
                    refine Eq.trans (jr_s (pc2 := 3) (lv2 := [(0, .long 1), (2, .long 0), (4, .long 17)]) (st2 := [.int 1]) jF_232_2 rfl rfl) ?_
                    refine Eq.trans (jr_if0 jF_232_3 (by decide +kernel)) ?_
                    refine Eq.trans (jr_s (pc2 := 7) (lv2 := [(0, .long 1), (2, .long 0), (4, .long 17)]) (st2 := [.long 1]) jF_232_6 rfl rfl) ?_
                    refine Eq.trans (jr_s (pc2 := 9) (lv2 := [(0, .long 1), (2, .long 0), (4, .long 17)]) (st2 := [.long 17, .long 1]) jF_232_7 rfl rfl) ?_
                    refine Eq.trans (jr_s (pc2 := 10) (lv2 := [(0, .long 1), (2, .long 0), (4, .long 17)]) (st2 := [.int (-1)]) jF_232_9 rfl rfl) ?_
                    refine Eq.trans (jr_if0 jF_232_10 (by decide +kernel)) ?_
                    refine Eq.trans (jr_s (pc2 := 14) (lv2 := [(0, .long 1), (2, .long 0), (4, .long 17)]) (st2 := [.int 1]) jF_232_13 rfl rfl) ?_
                    refine Eq.trans (jr_s (pc2 := 18) (lv2 := [(0, .long 1), (2, .long 0), (4, .long 17)]) (st2 := [.int 1]) jF_232_14 rfl rfl) ?_
                    exact jr_ri jF_232_18 rfl
                  refine Eq.trans (jr_if0 jF_267_9 (by decide +kernel)) ?_
                  refine Eq.trans (jr_s (pc2 := 13) (lv2 := [(0, .ref 117), (1, .int 1)]) (st2 := [.ref 117]) jF_267_12 rfl rfl) ?_
                  refine Eq.trans (jr_gf (v := .ref 138) jF_267_13 (by decide +kernel)) ?_
                  refine Eq.trans (jr_s (pc2 := 18) (lv2 := [(0, .ref 117), (1, .int 1)]) (st2 := [.int 18, .ref 138]) jF_267_16 rfl rfl) ?_
                  refine Eq.trans (jr_s (pc2 := 19) (lv2 := [(0, .ref 117), (1, .int 1)]) (st2 := [.int 1, .int 18, .ref 138]) jF_267_18 rfl rfl) ?_
                  refine Eq.trans (jr_s (pc2 := 20) (lv2 := [(0, .ref 117), (1, .int 1)]) (st2 := [.int 19, .ref 138]) jF_267_19 rfl rfl) ?_
                  refine Eq.trans (jr_ldl (v := .long 0) jF_267_20 (by decide +kernel)) ?_
                  exact jr_rl jF_267_21
                refine Eq.trans (jr_s (pc2 := 6) (lv2 := [(3, .long 0), (0, .ref 117), (1, .int 1), (2, .int a2)]) (st2 := []) jF_266_5 rfl rfl) ?_
                refine Eq.trans (jr_s (pc2 := 7) (lv2 := [(3, .long 0), (0, .ref 117), (1, .int 1), (2, .int a2)]) (st2 := [.long 0]) jF_266_6 rfl rfl) ?_
                refine Eq.trans (jr_s (pc2 := 8) (lv2 := [(3, .long 0), (0, .ref 117), (1, .int 1), (2, .int a2)]) (st2 := [.long 0, .long 0]) jF_266_7 rfl rfl) ?_
                refine Eq.trans (jr_s (pc2 := 9) (lv2 := [(3, .long 0), (0, .ref 117), (1, .int 1), (2, .int a2)]) (st2 := [.int 0]) jF_266_8 rfl rfl) ?_
                refine Eq.trans (jr_if1 jF_266_9 (by decide +kernel)) ?_
                refine Eq.trans (jr_s (pc2 := 25) (lv2 := [(3, .long 0), (0, .ref 117), (1, .int 1), (2, .int a2)]) (st2 := [.int (-1)]) jF_266_24 rfl rfl) ?_
                exact jr_ri jF_266_25 rfl
            · rcases j_ilt a1.toInt 3 with h_a1_3 | h_a1_3
              · obtain rfl : a1 = 2 := Int32.toInt_inj.mp (by rw [show (2 : Int32).toInt = 2 from by decide]; omega)
                refine ⟨60000, 60000, (-1), jh2, jh2, ?_, ?_, by decide +kernel⟩
                · refine Eq.trans (jr_s (pc2 := 1) (lv2 := [(0, .ref 9), (1, .int 2), (2, .int a2)]) (st2 := [.ref 9]) jF_92_0 rfl rfl) ?_
                  refine Eq.trans (jr_gf (v := .ref 20) jF_92_1 (by decide +kernel)) ?_
                  refine Eq.trans (jr_s (pc2 := 5) (lv2 := [(0, .ref 9), (1, .int 2), (2, .int a2)]) (st2 := [.int 2, .ref 20]) jF_92_4 rfl rfl) ?_
                  refine Eq.trans (jr_s (pc2 := 6) (lv2 := [(0, .ref 9), (1, .int 2), (2, .int a2)]) (st2 := [.int a2, .int 2, .ref 20]) jF_92_5 rfl rfl) ?_
                  refine Eq.trans (jr_cV (a := 20) (as := [.int 2, .int a2]) (rest := []) (v := some (.int (-1))) (hp2 := jh2) (fr2 := 499) (lo2 := 19978) jF_92_6 (by decide +kernel) rfl (show j_cnd 500 20000 499 19978 3 _ _ = true from rfl) ?_) ?_
                  · refine Eq.trans (jr_s (pc2 := 1) (lv2 := [(0, .ref 20), (1, .int 2), (2, .int a2)]) (st2 := [.int 2]) jF_93_0 rfl rfl) ?_
                    refine Eq.trans (jr_if0 jF_93_1 (by decide +kernel)) ?_
                    refine Eq.trans (jr_s (pc2 := 5) (lv2 := [(0, .ref 20), (1, .int 2), (2, .int a2)]) (st2 := [.int 2]) jF_93_4 rfl rfl) ?_
                    refine Eq.trans (jr_s (pc2 := 6) (lv2 := [(0, .ref 20), (1, .int 2), (2, .int a2)]) (st2 := [.ref 20, .int 2]) jF_93_5 rfl rfl) ?_
                    refine Eq.trans (jr_gf (v := .ref 21) jF_93_6 (by decide +kernel)) ?_
                    refine Eq.trans (jr_al (v := 25) jF_93_9 (by decide +kernel)) ?_
                    refine Eq.trans (jr_ic0 jF_93_10 (by decide +kernel)) ?_
                    refine Eq.trans (jr_s (pc2 := 14) (lv2 := [(0, .ref 20), (1, .int 2), (2, .int a2)]) (st2 := [.int a2]) jF_93_13 rfl rfl) ?_
                    refine Eq.trans (jr_if0 jF_93_14 (jk_lt_ge (show (0 : Int32).toInt ≤ (a2 : Int32).toInt by rw [show (0 : Int32).toInt = 0 from by decide]; omega))) ?_
                    refine Eq.trans (jr_s (pc2 := 18) (lv2 := [(0, .ref 20), (1, .int 2), (2, .int a2)]) (st2 := [.int a2]) jF_93_17 rfl rfl) ?_
                    refine Eq.trans (jr_s (pc2 := 20) (lv2 := [(0, .ref 20), (1, .int 2), (2, .int a2)]) (st2 := [.int 6, .int a2]) jF_93_18 rfl rfl) ?_
                    refine Eq.trans (jr_ic0 jF_93_20 (jk_ge_lt (show (a2 : Int32).toInt < (6 : Int32).toInt by rw [show (6 : Int32).toInt = 6 from by decide]; omega))) ?_
                    refine Eq.trans (jr_s (pc2 := 24) (lv2 := [(0, .ref 20), (1, .int 2), (2, .int a2)]) (st2 := [.ref 20]) jF_93_23 rfl rfl) ?_
                    refine Eq.trans (jr_gf (v := .ref 21) jF_93_24 (by decide +kernel)) ?_
                    refine Eq.trans (jr_s (pc2 := 28) (lv2 := [(0, .ref 20), (1, .int 2), (2, .int a2)]) (st2 := [.int 2, .ref 21]) jF_93_27 rfl rfl) ?_
                    refine Eq.trans (jr_ldi (v := .int 0) jF_93_28 (by decide +kernel)) ?_
                    refine Eq.trans (jr_if0 jF_93_29 (by decide +kernel)) ?_
                    refine Eq.trans (jr_s (pc2 := 33) (lv2 := [(0, .ref 20), (1, .int 2), (2, .int a2)]) (st2 := [.int (-1)]) jF_93_32 rfl rfl) ?_
                    exact jr_ri jF_93_33 rfl
                  exact jr_ri jF_92_9 rfl
                · refine Eq.trans (jr_s (pc2 := 1) (lv2 := [(0, .ref 117), (1, .int 2), (2, .int a2)]) (st2 := [.ref 117]) jF_266_0 rfl rfl) ?_
                  refine Eq.trans (jr_s (pc2 := 2) (lv2 := [(0, .ref 117), (1, .int 2), (2, .int a2)]) (st2 := [.int 2, .ref 117]) jF_266_1 rfl rfl) ?_
                  refine Eq.trans (jr_cV (a := 117) (as := [.int 2]) (rest := []) (v := some (.long 0)) (hp2 := jh2) (fr2 := 499) (lo2 := 19979) jF_266_2 (by decide +kernel) rfl (show j_cnd 500 20000 499 19979 2 _ _ = true from rfl) ?_) ?_
                  · refine Eq.trans (jr_s (pc2 := 1) (lv2 := [(0, .ref 117), (1, .int 2)]) (st2 := [.int 2]) jF_267_0 rfl rfl) ?_
                    refine Eq.trans (jr_s (pc2 := 2) (lv2 := [(0, .ref 117), (1, .int 2)]) (st2 := [.long 2]) jF_267_1 rfl rfl) ?_
                    refine Eq.trans (jr_s (pc2 := 3) (lv2 := [(0, .ref 117), (1, .int 2)]) (st2 := [.long 0, .long 2]) jF_267_2 rfl rfl) ?_
                    refine Eq.trans (jr_s (pc2 := 6) (lv2 := [(0, .ref 117), (1, .int 2)]) (st2 := [.long 17, .long 0, .long 2]) jF_267_3 rfl rfl) ?_
                    refine Eq.trans (jr_cS (as := [.long 2, .long 0, .long 17]) (rest := []) (v := some (.int 1)) (hp2 := jh2) (fr2 := 498) (lo2 := 19954) jF_267_6 rfl (show j_cnd 499 19979 498 19954 6 _ _ = true from rfl) ?_) ?_
                    · refine Eq.trans (jr_s (pc2 := 1) (lv2 := [(0, .long 2), (2, .long 0), (4, .long 17)]) (st2 := [.long 2]) jF_232_0 rfl rfl) ?_
                      refine Eq.trans (jr_s (pc2 := 2) (lv2 := [(0, .long 2), (2, .long 0), (4, .long 17)]) (st2 := [.long 0, .long 2]) jF_232_1 rfl rfl) ?_
                      refine Eq.trans (jr_s (pc2 := 3) (lv2 := [(0, .long 2), (2, .long 0), (4, .long 17)]) (st2 := [.int 1]) jF_232_2 rfl rfl) ?_
                      refine Eq.trans (jr_if0 jF_232_3 (by decide +kernel)) ?_
                      refine Eq.trans (jr_s (pc2 := 7) (lv2 := [(0, .long 2), (2, .long 0), (4, .long 17)]) (st2 := [.long 2]) jF_232_6 rfl rfl) ?_
                      refine Eq.trans (jr_s (pc2 := 9) (lv2 := [(0, .long 2), (2, .long 0), (4, .long 17)]) (st2 := [.long 17, .long 2]) jF_232_7 rfl rfl) ?_
                      refine Eq.trans (jr_s (pc2 := 10) (lv2 := [(0, .long 2), (2, .long 0), (4, .long 17)]) (st2 := [.int (-1)]) jF_232_9 rfl rfl) ?_
                      refine Eq.trans (jr_if0 jF_232_10 (by decide +kernel)) ?_
                      refine Eq.trans (jr_s (pc2 := 14) (lv2 := [(0, .long 2), (2, .long 0), (4, .long 17)]) (st2 := [.int 1]) jF_232_13 rfl rfl) ?_
                      refine Eq.trans (jr_s (pc2 := 18) (lv2 := [(0, .long 2), (2, .long 0), (4, .long 17)]) (st2 := [.int 1]) jF_232_14 rfl rfl) ?_
                      exact jr_ri jF_232_18 rfl
                    refine Eq.trans (jr_if0 jF_267_9 (by decide +kernel)) ?_
                    refine Eq.trans (jr_s (pc2 := 13) (lv2 := [(0, .ref 117), (1, .int 2)]) (st2 := [.ref 117]) jF_267_12 rfl rfl) ?_
                    refine Eq.trans (jr_gf (v := .ref 138) jF_267_13 (by decide +kernel)) ?_
                    refine Eq.trans (jr_s (pc2 := 18) (lv2 := [(0, .ref 117), (1, .int 2)]) (st2 := [.int 18, .ref 138]) jF_267_16 rfl rfl) ?_
                    refine Eq.trans (jr_s (pc2 := 19) (lv2 := [(0, .ref 117), (1, .int 2)]) (st2 := [.int 2, .int 18, .ref 138]) jF_267_18 rfl rfl) ?_
                    refine Eq.trans (jr_s (pc2 := 20) (lv2 := [(0, .ref 117), (1, .int 2)]) (st2 := [.int 20, .ref 138]) jF_267_19 rfl rfl) ?_
                    refine Eq.trans (jr_ldl (v := .long 0) jF_267_20 (by decide +kernel)) ?_
                    exact jr_rl jF_267_21
                  refine Eq.trans (jr_s (pc2 := 6) (lv2 := [(3, .long 0), (0, .ref 117), (1, .int 2), (2, .int a2)]) (st2 := []) jF_266_5 rfl rfl) ?_
                  refine Eq.trans (jr_s (pc2 := 7) (lv2 := [(3, .long 0), (0, .ref 117), (1, .int 2), (2, .int a2)]) (st2 := [.long 0]) jF_266_6 rfl rfl) ?_
                  refine Eq.trans (jr_s (pc2 := 8) (lv2 := [(3, .long 0), (0, .ref 117), (1, .int 2), (2, .int a2)]) (st2 := [.long 0, .long 0]) jF_266_7 rfl rfl) ?_
                  refine Eq.trans (jr_s (pc2 := 9) (lv2 := [(3, .long 0), (0, .ref 117), (1, .int 2), (2, .int a2)]) (st2 := [.int 0]) jF_266_8 rfl rfl) ?_
                  refine Eq.trans (jr_if1 jF_266_9 (by decide +kernel)) ?_
                  refine Eq.trans (jr_s (pc2 := 25) (lv2 := [(3, .long 0), (0, .ref 117), (1, .int 2), (2, .int a2)]) (st2 := [.int (-1)]) jF_266_24 rfl rfl) ?_
                  exact jr_ri jF_266_25 rfl
              · rcases j_ilt a1.toInt 4 with h_a1_4 | h_a1_4
                · obtain rfl : a1 = 3 := Int32.toInt_inj.mp (by rw [show (3 : Int32).toInt = 3 from by decide]; omega)
                  refine ⟨60000, 60000, (-1), jh2, jh2, ?_, ?_, by decide +kernel⟩
                  · refine Eq.trans (jr_s (pc2 := 1) (lv2 := [(0, .ref 9), (1, .int 3), (2, .int a2)]) (st2 := [.ref 9]) jF_92_0 rfl rfl) ?_
                    refine Eq.trans (jr_gf (v := .ref 20) jF_92_1 (by decide +kernel)) ?_
                    refine Eq.trans (jr_s (pc2 := 5) (lv2 := [(0, .ref 9), (1, .int 3), (2, .int a2)]) (st2 := [.int 3, .ref 20]) jF_92_4 rfl rfl) ?_
                    refine Eq.trans (jr_s (pc2 := 6) (lv2 := [(0, .ref 9), (1, .int 3), (2, .int a2)]) (st2 := [.int a2, .int 3, .ref 20]) jF_92_5 rfl rfl) ?_
                    refine Eq.trans (jr_cV (a := 20) (as := [.int 3, .int a2]) (rest := []) (v := some (.int (-1))) (hp2 := jh2) (fr2 := 499) (lo2 := 19978) jF_92_6 (by decide +kernel) rfl (show j_cnd 500 20000 499 19978 3 _ _ = true from rfl) ?_) ?_
                    · refine Eq.trans (jr_s (pc2 := 1) (lv2 := [(0, .ref 20), (1, .int 3), (2, .int a2)]) (st2 := [.int 3]) jF_93_0 rfl rfl) ?_
                      refine Eq.trans (jr_if0 jF_93_1 (by decide +kernel)) ?_
                      refine Eq.trans (jr_s (pc2 := 5) (lv2 := [(0, .ref 20), (1, .int 3), (2, .int a2)]) (st2 := [.int 3]) jF_93_4 rfl rfl) ?_
                      refine Eq.trans (jr_s (pc2 := 6) (lv2 := [(0, .ref 20), (1, .int 3), (2, .int a2)]) (st2 := [.ref 20, .int 3]) jF_93_5 rfl rfl) ?_
                      refine Eq.trans (jr_gf (v := .ref 21) jF_93_6 (by decide +kernel)) ?_
                      refine Eq.trans (jr_al (v := 25) jF_93_9 (by decide +kernel)) ?_
                      refine Eq.trans (jr_ic0 jF_93_10 (by decide +kernel)) ?_
                      refine Eq.trans (jr_s (pc2 := 14) (lv2 := [(0, .ref 20), (1, .int 3), (2, .int a2)]) (st2 := [.int a2]) jF_93_13 rfl rfl) ?_
                      refine Eq.trans (jr_if0 jF_93_14 (jk_lt_ge (show (0 : Int32).toInt ≤ (a2 : Int32).toInt by rw [show (0 : Int32).toInt = 0 from by decide]; omega))) ?_
                      refine Eq.trans (jr_s (pc2 := 18) (lv2 := [(0, .ref 20), (1, .int 3), (2, .int a2)]) (st2 := [.int a2]) jF_93_17 rfl rfl) ?_
                      refine Eq.trans (jr_s (pc2 := 20) (lv2 := [(0, .ref 20), (1, .int 3), (2, .int a2)]) (st2 := [.int 6, .int a2]) jF_93_18 rfl rfl) ?_
                      refine Eq.trans (jr_ic0 jF_93_20 (jk_ge_lt (show (a2 : Int32).toInt < (6 : Int32).toInt by rw [show (6 : Int32).toInt = 6 from by decide]; omega))) ?_
                      refine Eq.trans (jr_s (pc2 := 24) (lv2 := [(0, .ref 20), (1, .int 3), (2, .int a2)]) (st2 := [.ref 20]) jF_93_23 rfl rfl) ?_
                      refine Eq.trans (jr_gf (v := .ref 21) jF_93_24 (by decide +kernel)) ?_
                      refine Eq.trans (jr_s (pc2 := 28) (lv2 := [(0, .ref 20), (1, .int 3), (2, .int a2)]) (st2 := [.int 3, .ref 21]) jF_93_27 rfl rfl) ?_
                      refine Eq.trans (jr_ldi (v := .int 0) jF_93_28 (by decide +kernel)) ?_
                      refine Eq.trans (jr_if0 jF_93_29 (by decide +kernel)) ?_
                      refine Eq.trans (jr_s (pc2 := 33) (lv2 := [(0, .ref 20), (1, .int 3), (2, .int a2)]) (st2 := [.int (-1)]) jF_93_32 rfl rfl) ?_
                      exact jr_ri jF_93_33 rfl
                    exact jr_ri jF_92_9 rfl
                  · refine Eq.trans (jr_s (pc2 := 1) (lv2 := [(0, .ref 117), (1, .int 3), (2, .int a2)]) (st2 := [.ref 117]) jF_266_0 rfl rfl) ?_
                    refine Eq.trans (jr_s (pc2 := 2) (lv2 := [(0, .ref 117), (1, .int 3), (2, .int a2)]) (st2 := [.int 3, .ref 117]) jF_266_1 rfl rfl) ?_
                    refine Eq.trans (jr_cV (a := 117) (as := [.int 3]) (rest := []) (v := some (.long 0)) (hp2 := jh2) (fr2 := 499) (lo2 := 19979) jF_266_2 (by decide +kernel) rfl (show j_cnd 500 20000 499 19979 2 _ _ = true from rfl) ?_) ?_
                    · refine Eq.trans (jr_s (pc2 := 1) (lv2 := [(0, .ref 117), (1, .int 3)]) (st2 := [.int 3]) jF_267_0 rfl rfl) ?_
                      refine Eq.trans (jr_s (pc2 := 2) (lv2 := [(0, .ref 117), (1, .int 3)]) (st2 := [.long 3]) jF_267_1 rfl rfl) ?_
                      refine Eq.trans (jr_s (pc2 := 3) (lv2 := [(0, .ref 117), (1, .int 3)]) (st2 := [.long 0, .long 3]) jF_267_2 rfl rfl) ?_
                      refine Eq.trans (jr_s (pc2 := 6) (lv2 := [(0, .ref 117), (1, .int 3)]) (st2 := [.long 17, .long 0, .long 3]) jF_267_3 rfl rfl) ?_
                      refine Eq.trans (jr_cS (as := [.long 3, .long 0, .long 17]) (rest := []) (v := some (.int 1)) (hp2 := jh2) (fr2 := 498) (lo2 := 19954) jF_267_6 rfl (show j_cnd 499 19979 498 19954 6 _ _ = true from rfl) ?_) ?_
                      · refine Eq.trans (jr_s (pc2 := 1) (lv2 := [(0, .long 3), (2, .long 0), (4, .long 17)]) (st2 := [.long 3]) jF_232_0 rfl rfl) ?_
                        refine Eq.trans (jr_s (pc2 := 2) (lv2 := [(0, .long 3), (2, .long 0), (4, .long 17)]) (st2 := [.long 0, .long 3]) jF_232_1 rfl rfl) ?_
                        refine Eq.trans (jr_s (pc2 := 3) (lv2 := [(0, .long 3), (2, .long 0), (4, .long 17)]) (st2 := [.int 1]) jF_232_2 rfl rfl) ?_
                        refine Eq.trans (jr_if0 jF_232_3 (by decide +kernel)) ?_
                        refine Eq.trans (jr_s (pc2 := 7) (lv2 := [(0, .long 3), (2, .long 0), (4, .long 17)]) (st2 := [.long 3]) jF_232_6 rfl rfl) ?_
                        refine Eq.trans (jr_s (pc2 := 9) (lv2 := [(0, .long 3), (2, .long 0), (4, .long 17)]) (st2 := [.long 17, .long 3]) jF_232_7 rfl rfl) ?_
                        refine Eq.trans (jr_s (pc2 := 10) (lv2 := [(0, .long 3), (2, .long 0), (4, .long 17)]) (st2 := [.int (-1)]) jF_232_9 rfl rfl) ?_
                        refine Eq.trans (jr_if0 jF_232_10 (by decide +kernel)) ?_
                        refine Eq.trans (jr_s (pc2 := 14) (lv2 := [(0, .long 3), (2, .long 0), (4, .long 17)]) (st2 := [.int 1]) jF_232_13 rfl rfl) ?_
                        refine Eq.trans (jr_s (pc2 := 18) (lv2 := [(0, .long 3), (2, .long 0), (4, .long 17)]) (st2 := [.int 1]) jF_232_14 rfl rfl) ?_
                        exact jr_ri jF_232_18 rfl
                      refine Eq.trans (jr_if0 jF_267_9 (by decide +kernel)) ?_
                      refine Eq.trans (jr_s (pc2 := 13) (lv2 := [(0, .ref 117), (1, .int 3)]) (st2 := [.ref 117]) jF_267_12 rfl rfl) ?_
                      refine Eq.trans (jr_gf (v := .ref 138) jF_267_13 (by decide +kernel)) ?_
                      refine Eq.trans (jr_s (pc2 := 18) (lv2 := [(0, .ref 117), (1, .int 3)]) (st2 := [.int 18, .ref 138]) jF_267_16 rfl rfl) ?_
                      refine Eq.trans (jr_s (pc2 := 19) (lv2 := [(0, .ref 117), (1, .int 3)]) (st2 := [.int 3, .int 18, .ref 138]) jF_267_18 rfl rfl) ?_
                      refine Eq.trans (jr_s (pc2 := 20) (lv2 := [(0, .ref 117), (1, .int 3)]) (st2 := [.int 21, .ref 138]) jF_267_19 rfl rfl) ?_
                      refine Eq.trans (jr_ldl (v := .long 0) jF_267_20 (by decide +kernel)) ?_
                      exact jr_rl jF_267_21
                    refine Eq.trans (jr_s (pc2 := 6) (lv2 := [(3, .long 0), (0, .ref 117), (1, .int 3), (2, .int a2)]) (st2 := []) jF_266_5 rfl rfl) ?_
                    refine Eq.trans (jr_s (pc2 := 7) (lv2 := [(3, .long 0), (0, .ref 117), (1, .int 3), (2, .int a2)]) (st2 := [.long 0]) jF_266_6 rfl rfl) ?_
                    refine Eq.trans (jr_s (pc2 := 8) (lv2 := [(3, .long 0), (0, .ref 117), (1, .int 3), (2, .int a2)]) (st2 := [.long 0, .long 0]) jF_266_7 rfl rfl) ?_
                    refine Eq.trans (jr_s (pc2 := 9) (lv2 := [(3, .long 0), (0, .ref 117), (1, .int 3), (2, .int a2)]) (st2 := [.int 0]) jF_266_8 rfl rfl) ?_
                    refine Eq.trans (jr_if1 jF_266_9 (by decide +kernel)) ?_
                    refine Eq.trans (jr_s (pc2 := 25) (lv2 := [(3, .long 0), (0, .ref 117), (1, .int 3), (2, .int a2)]) (st2 := [.int (-1)]) jF_266_24 rfl rfl) ?_
                    exact jr_ri jF_266_25 rfl
                · rcases j_ilt a1.toInt 5 with h_a1_5 | h_a1_5
                  · obtain rfl : a1 = 4 := Int32.toInt_inj.mp (by rw [show (4 : Int32).toInt = 4 from by decide]; omega)
                    refine ⟨60000, 60000, (-1), jh2, jh2, ?_, ?_, by decide +kernel⟩
                    · refine Eq.trans (jr_s (pc2 := 1) (lv2 := [(0, .ref 9), (1, .int 4), (2, .int a2)]) (st2 := [.ref 9]) jF_92_0 rfl rfl) ?_
                      refine Eq.trans (jr_gf (v := .ref 20) jF_92_1 (by decide +kernel)) ?_
                      refine Eq.trans (jr_s (pc2 := 5) (lv2 := [(0, .ref 9), (1, .int 4), (2, .int a2)]) (st2 := [.int 4, .ref 20]) jF_92_4 rfl rfl) ?_
                      refine Eq.trans (jr_s (pc2 := 6) (lv2 := [(0, .ref 9), (1, .int 4), (2, .int a2)]) (st2 := [.int a2, .int 4, .ref 20]) jF_92_5 rfl rfl) ?_
                      refine Eq.trans (jr_cV (a := 20) (as := [.int 4, .int a2]) (rest := []) (v := some (.int (-1))) (hp2 := jh2) (fr2 := 499) (lo2 := 19978) jF_92_6 (by decide +kernel) rfl (show j_cnd 500 20000 499 19978 3 _ _ = true from rfl) ?_) ?_
                      · refine Eq.trans (jr_s (pc2 := 1) (lv2 := [(0, .ref 20), (1, .int 4), (2, .int a2)]) (st2 := [.int 4]) jF_93_0 rfl rfl) ?_
                        refine Eq.trans (jr_if0 jF_93_1 (by decide +kernel)) ?_
                        refine Eq.trans (jr_s (pc2 := 5) (lv2 := [(0, .ref 20), (1, .int 4), (2, .int a2)]) (st2 := [.int 4]) jF_93_4 rfl rfl) ?_
                        refine Eq.trans (jr_s (pc2 := 6) (lv2 := [(0, .ref 20), (1, .int 4), (2, .int a2)]) (st2 := [.ref 20, .int 4]) jF_93_5 rfl rfl) ?_
                        refine Eq.trans (jr_gf (v := .ref 21) jF_93_6 (by decide +kernel)) ?_
                        refine Eq.trans (jr_al (v := 25) jF_93_9 (by decide +kernel)) ?_
                        refine Eq.trans (jr_ic0 jF_93_10 (by decide +kernel)) ?_
                        refine Eq.trans (jr_s (pc2 := 14) (lv2 := [(0, .ref 20), (1, .int 4), (2, .int a2)]) (st2 := [.int a2]) jF_93_13 rfl rfl) ?_
                        refine Eq.trans (jr_if0 jF_93_14 (jk_lt_ge (show (0 : Int32).toInt ≤ (a2 : Int32).toInt by rw [show (0 : Int32).toInt = 0 from by decide]; omega))) ?_
                        refine Eq.trans (jr_s (pc2 := 18) (lv2 := [(0, .ref 20), (1, .int 4), (2, .int a2)]) (st2 := [.int a2]) jF_93_17 rfl rfl) ?_
                        refine Eq.trans (jr_s (pc2 := 20) (lv2 := [(0, .ref 20), (1, .int 4), (2, .int a2)]) (st2 := [.int 6, .int a2]) jF_93_18 rfl rfl) ?_
                        refine Eq.trans (jr_ic0 jF_93_20 (jk_ge_lt (show (a2 : Int32).toInt < (6 : Int32).toInt by rw [show (6 : Int32).toInt = 6 from by decide]; omega))) ?_
                        refine Eq.trans (jr_s (pc2 := 24) (lv2 := [(0, .ref 20), (1, .int 4), (2, .int a2)]) (st2 := [.ref 20]) jF_93_23 rfl rfl) ?_
                        refine Eq.trans (jr_gf (v := .ref 21) jF_93_24 (by decide +kernel)) ?_
                        refine Eq.trans (jr_s (pc2 := 28) (lv2 := [(0, .ref 20), (1, .int 4), (2, .int a2)]) (st2 := [.int 4, .ref 21]) jF_93_27 rfl rfl) ?_
                        refine Eq.trans (jr_ldi (v := .int 0) jF_93_28 (by decide +kernel)) ?_
                        refine Eq.trans (jr_if0 jF_93_29 (by decide +kernel)) ?_
                        refine Eq.trans (jr_s (pc2 := 33) (lv2 := [(0, .ref 20), (1, .int 4), (2, .int a2)]) (st2 := [.int (-1)]) jF_93_32 rfl rfl) ?_
                        exact jr_ri jF_93_33 rfl
                      exact jr_ri jF_92_9 rfl
                    · refine Eq.trans (jr_s (pc2 := 1) (lv2 := [(0, .ref 117), (1, .int 4), (2, .int a2)]) (st2 := [.ref 117]) jF_266_0 rfl rfl) ?_
                      refine Eq.trans (jr_s (pc2 := 2) (lv2 := [(0, .ref 117), (1, .int 4), (2, .int a2)]) (st2 := [.int 4, .ref 117]) jF_266_1 rfl rfl) ?_
                      refine Eq.trans (jr_cV (a := 117) (as := [.int 4]) (rest := []) (v := some (.long 0)) (hp2 := jh2) (fr2 := 499) (lo2 := 19979) jF_266_2 (by decide +kernel) rfl (show j_cnd 500 20000 499 19979 2 _ _ = true from rfl) ?_) ?_
                      · refine Eq.trans (jr_s (pc2 := 1) (lv2 := [(0, .ref 117), (1, .int 4)]) (st2 := [.int 4]) jF_267_0 rfl rfl) ?_
                        refine Eq.trans (jr_s (pc2 := 2) (lv2 := [(0, .ref 117), (1, .int 4)]) (st2 := [.long 4]) jF_267_1 rfl rfl) ?_
                        refine Eq.trans (jr_s (pc2 := 3) (lv2 := [(0, .ref 117), (1, .int 4)]) (st2 := [.long 0, .long 4]) jF_267_2 rfl rfl) ?_
                        refine Eq.trans (jr_s (pc2 := 6) (lv2 := [(0, .ref 117), (1, .int 4)]) (st2 := [.long 17, .long 0, .long 4]) jF_267_3 rfl rfl) ?_
                        refine Eq.trans (jr_cS (as := [.long 4, .long 0, .long 17]) (rest := []) (v := some (.int 1)) (hp2 := jh2) (fr2 := 498) (lo2 := 19954) jF_267_6 rfl (show j_cnd 499 19979 498 19954 6 _ _ = true from rfl) ?_) ?_
                        · refine Eq.trans (jr_s (pc2 := 1) (lv2 := [(0, .long 4), (2, .long 0), (4, .long 17)]) (st2 := [.long 4]) jF_232_0 rfl rfl) ?_
                          refine Eq.trans (jr_s (pc2 := 2) (lv2 := [(0, .long 4), (2, .long 0), (4, .long 17)]) (st2 := [.long 0, .long 4]) jF_232_1 rfl rfl) ?_
                          refine Eq.trans (jr_s (pc2 := 3) (lv2 := [(0, .long 4), (2, .long 0), (4, .long 17)]) (st2 := [.int 1]) jF_232_2 rfl rfl) ?_
                          refine Eq.trans (jr_if0 jF_232_3 (by decide +kernel)) ?_
                          refine Eq.trans (jr_s (pc2 := 7) (lv2 := [(0, .long 4), (2, .long 0), (4, .long 17)]) (st2 := [.long 4]) jF_232_6 rfl rfl) ?_
                          refine Eq.trans (jr_s (pc2 := 9) (lv2 := [(0, .long 4), (2, .long 0), (4, .long 17)]) (st2 := [.long 17, .long 4]) jF_232_7 rfl rfl) ?_
                          refine Eq.trans (jr_s (pc2 := 10) (lv2 := [(0, .long 4), (2, .long 0), (4, .long 17)]) (st2 := [.int (-1)]) jF_232_9 rfl rfl) ?_
                          refine Eq.trans (jr_if0 jF_232_10 (by decide +kernel)) ?_
                          refine Eq.trans (jr_s (pc2 := 14) (lv2 := [(0, .long 4), (2, .long 0), (4, .long 17)]) (st2 := [.int 1]) jF_232_13 rfl rfl) ?_
                          refine Eq.trans (jr_s (pc2 := 18) (lv2 := [(0, .long 4), (2, .long 0), (4, .long 17)]) (st2 := [.int 1]) jF_232_14 rfl rfl) ?_
                          exact jr_ri jF_232_18 rfl
                        refine Eq.trans (jr_if0 jF_267_9 (by decide +kernel)) ?_
                        refine Eq.trans (jr_s (pc2 := 13) (lv2 := [(0, .ref 117), (1, .int 4)]) (st2 := [.ref 117]) jF_267_12 rfl rfl) ?_
                        refine Eq.trans (jr_gf (v := .ref 138) jF_267_13 (by decide +kernel)) ?_
                        refine Eq.trans (jr_s (pc2 := 18) (lv2 := [(0, .ref 117), (1, .int 4)]) (st2 := [.int 18, .ref 138]) jF_267_16 rfl rfl) ?_
                        refine Eq.trans (jr_s (pc2 := 19) (lv2 := [(0, .ref 117), (1, .int 4)]) (st2 := [.int 4, .int 18, .ref 138]) jF_267_18 rfl rfl) ?_
                        refine Eq.trans (jr_s (pc2 := 20) (lv2 := [(0, .ref 117), (1, .int 4)]) (st2 := [.int 22, .ref 138]) jF_267_19 rfl rfl) ?_
                        refine Eq.trans (jr_ldl (v := .long 0) jF_267_20 (by decide +kernel)) ?_
                        exact jr_rl jF_267_21
                      refine Eq.trans (jr_s (pc2 := 6) (lv2 := [(3, .long 0), (0, .ref 117), (1, .int 4), (2, .int a2)]) (st2 := []) jF_266_5 rfl rfl) ?_
                      refine Eq.trans (jr_s (pc2 := 7) (lv2 := [(3, .long 0), (0, .ref 117), (1, .int 4), (2, .int a2)]) (st2 := [.long 0]) jF_266_6 rfl rfl) ?_
                      refine Eq.trans (jr_s (pc2 := 8) (lv2 := [(3, .long 0), (0, .ref 117), (1, .int 4), (2, .int a2)]) (st2 := [.long 0, .long 0]) jF_266_7 rfl rfl) ?_
                      refine Eq.trans (jr_s (pc2 := 9) (lv2 := [(3, .long 0), (0, .ref 117), (1, .int 4), (2, .int a2)]) (st2 := [.int 0]) jF_266_8 rfl rfl) ?_
                      refine Eq.trans (jr_if1 jF_266_9 (by decide +kernel)) ?_
                      refine Eq.trans (jr_s (pc2 := 25) (lv2 := [(3, .long 0), (0, .ref 117), (1, .int 4), (2, .int a2)]) (st2 := [.int (-1)]) jF_266_24 rfl rfl) ?_
                      exact jr_ri jF_266_25 rfl
                  · rcases j_ilt a1.toInt 6 with h_a1_6 | h_a1_6
                    · obtain rfl : a1 = 5 := Int32.toInt_inj.mp (by rw [show (5 : Int32).toInt = 5 from by decide]; omega)
                      refine ⟨60000, 60000, (-1), jh2, jh2, ?_, ?_, by decide +kernel⟩
                      · refine Eq.trans (jr_s (pc2 := 1) (lv2 := [(0, .ref 9), (1, .int 5), (2, .int a2)]) (st2 := [.ref 9]) jF_92_0 rfl rfl) ?_
                        refine Eq.trans (jr_gf (v := .ref 20) jF_92_1 (by decide +kernel)) ?_
                        refine Eq.trans (jr_s (pc2 := 5) (lv2 := [(0, .ref 9), (1, .int 5), (2, .int a2)]) (st2 := [.int 5, .ref 20]) jF_92_4 rfl rfl) ?_
                        refine Eq.trans (jr_s (pc2 := 6) (lv2 := [(0, .ref 9), (1, .int 5), (2, .int a2)]) (st2 := [.int a2, .int 5, .ref 20]) jF_92_5 rfl rfl) ?_
                        refine Eq.trans (jr_cV (a := 20) (as := [.int 5, .int a2]) (rest := []) (v := some (.int (-1))) (hp2 := jh2) (fr2 := 499) (lo2 := 19978) jF_92_6 (by decide +kernel) rfl (show j_cnd 500 20000 499 19978 3 _ _ = true from rfl) ?_) ?_
                        · refine Eq.trans (jr_s (pc2 := 1) (lv2 := [(0, .ref 20), (1, .int 5), (2, .int a2)]) (st2 := [.int 5]) jF_93_0 rfl rfl) ?_
                          refine Eq.trans (jr_if0 jF_93_1 (by decide +kernel)) ?_
                          refine Eq.trans (jr_s (pc2 := 5) (lv2 := [(0, .ref 20), (1, .int 5), (2, .int a2)]) (st2 := [.int 5]) jF_93_4 rfl rfl) ?_
                          refine Eq.trans (jr_s (pc2 := 6) (lv2 := [(0, .ref 20), (1, .int 5), (2, .int a2)]) (st2 := [.ref 20, .int 5]) jF_93_5 rfl rfl) ?_
                          refine Eq.trans (jr_gf (v := .ref 21) jF_93_6 (by decide +kernel)) ?_
                          refine Eq.trans (jr_al (v := 25) jF_93_9 (by decide +kernel)) ?_
                          refine Eq.trans (jr_ic0 jF_93_10 (by decide +kernel)) ?_
                          refine Eq.trans (jr_s (pc2 := 14) (lv2 := [(0, .ref 20), (1, .int 5), (2, .int a2)]) (st2 := [.int a2]) jF_93_13 rfl rfl) ?_
                          refine Eq.trans (jr_if0 jF_93_14 (jk_lt_ge (show (0 : Int32).toInt ≤ (a2 : Int32).toInt by rw [show (0 : Int32).toInt = 0 from by decide]; omega))) ?_
                          refine Eq.trans (jr_s (pc2 := 18) (lv2 := [(0, .ref 20), (1, .int 5), (2, .int a2)]) (st2 := [.int a2]) jF_93_17 rfl rfl) ?_
                          refine Eq.trans (jr_s (pc2 := 20) (lv2 := [(0, .ref 20), (1, .int 5), (2, .int a2)]) (st2 := [.int 6, .int a2]) jF_93_18 rfl rfl) ?_
                          refine Eq.trans (jr_ic0 jF_93_20 (jk_ge_lt (show (a2 : Int32).toInt < (6 : Int32).toInt by rw [show (6 : Int32).toInt = 6 from by decide]; omega))) ?_
                          refine Eq.trans (jr_s (pc2 := 24) (lv2 := [(0, .ref 20), (1, .int 5), (2, .int a2)]) (st2 := [.ref 20]) jF_93_23 rfl rfl) ?_
                          refine Eq.trans (jr_gf (v := .ref 21) jF_93_24 (by decide +kernel)) ?_
                          refine Eq.trans (jr_s (pc2 := 28) (lv2 := [(0, .ref 20), (1, .int 5), (2, .int a2)]) (st2 := [.int 5, .ref 21]) jF_93_27 rfl rfl) ?_
                          refine Eq.trans (jr_ldi (v := .int 0) jF_93_28 (by decide +kernel)) ?_
                          refine Eq.trans (jr_if0 jF_93_29 (by decide +kernel)) ?_
                          refine Eq.trans (jr_s (pc2 := 33) (lv2 := [(0, .ref 20), (1, .int 5), (2, .int a2)]) (st2 := [.int (-1)]) jF_93_32 rfl rfl) ?_
                          exact jr_ri jF_93_33 rfl
                        exact jr_ri jF_92_9 rfl
                      · refine Eq.trans (jr_s (pc2 := 1) (lv2 := [(0, .ref 117), (1, .int 5), (2, .int a2)]) (st2 := [.ref 117]) jF_266_0 rfl rfl) ?_
                        refine Eq.trans (jr_s (pc2 := 2) (lv2 := [(0, .ref 117), (1, .int 5), (2, .int a2)]) (st2 := [.int 5, .ref 117]) jF_266_1 rfl rfl) ?_
                        refine Eq.trans (jr_cV (a := 117) (as := [.int 5]) (rest := []) (v := some (.long 0)) (hp2 := jh2) (fr2 := 499) (lo2 := 19979) jF_266_2 (by decide +kernel) rfl (show j_cnd 500 20000 499 19979 2 _ _ = true from rfl) ?_) ?_
                        · refine Eq.trans (jr_s (pc2 := 1) (lv2 := [(0, .ref 117), (1, .int 5)]) (st2 := [.int 5]) jF_267_0 rfl rfl) ?_
                          refine Eq.trans (jr_s (pc2 := 2) (lv2 := [(0, .ref 117), (1, .int 5)]) (st2 := [.long 5]) jF_267_1 rfl rfl) ?_
                          refine Eq.trans (jr_s (pc2 := 3) (lv2 := [(0, .ref 117), (1, .int 5)]) (st2 := [.long 0, .long 5]) jF_267_2 rfl rfl) ?_
                          refine Eq.trans (jr_s (pc2 := 6) (lv2 := [(0, .ref 117), (1, .int 5)]) (st2 := [.long 17, .long 0, .long 5]) jF_267_3 rfl rfl) ?_
                          refine Eq.trans (jr_cS (as := [.long 5, .long 0, .long 17]) (rest := []) (v := some (.int 1)) (hp2 := jh2) (fr2 := 498) (lo2 := 19954) jF_267_6 rfl (show j_cnd 499 19979 498 19954 6 _ _ = true from rfl) ?_) ?_
                          · refine Eq.trans (jr_s (pc2 := 1) (lv2 := [(0, .long 5), (2, .long 0), (4, .long 17)]) (st2 := [.long 5]) jF_232_0 rfl rfl) ?_
                            refine Eq.trans (jr_s (pc2 := 2) (lv2 := [(0, .long 5), (2, .long 0), (4, .long 17)]) (st2 := [.long 0, .long 5]) jF_232_1 rfl rfl) ?_
                            refine Eq.trans (jr_s (pc2 := 3) (lv2 := [(0, .long 5), (2, .long 0), (4, .long 17)]) (st2 := [.int 1]) jF_232_2 rfl rfl) ?_
                            refine Eq.trans (jr_if0 jF_232_3 (by decide +kernel)) ?_
                            refine Eq.trans (jr_s (pc2 := 7) (lv2 := [(0, .long 5), (2, .long 0), (4, .long 17)]) (st2 := [.long 5]) jF_232_6 rfl rfl) ?_
                            refine Eq.trans (jr_s (pc2 := 9) (lv2 := [(0, .long 5), (2, .long 0), (4, .long 17)]) (st2 := [.long 17, .long 5]) jF_232_7 rfl rfl) ?_
                            refine Eq.trans (jr_s (pc2 := 10) (lv2 := [(0, .long 5), (2, .long 0), (4, .long 17)]) (st2 := [.int (-1)]) jF_232_9 rfl rfl) ?_
                            refine Eq.trans (jr_if0 jF_232_10 (by decide +kernel)) ?_
                            refine Eq.trans (jr_s (pc2 := 14) (lv2 := [(0, .long 5), (2, .long 0), (4, .long 17)]) (st2 := [.int 1]) jF_232_13 rfl rfl) ?_
                            refine Eq.trans (jr_s (pc2 := 18) (lv2 := [(0, .long 5), (2, .long 0), (4, .long 17)]) (st2 := [.int 1]) jF_232_14 rfl rfl) ?_
                            exact jr_ri jF_232_18 rfl
                          refine Eq.trans (jr_if0 jF_267_9 (by decide +kernel)) ?_
                          refine Eq.trans (jr_s (pc2 := 13) (lv2 := [(0, .ref 117), (1, .int 5)]) (st2 := [.ref 117]) jF_267_12 rfl rfl) ?_
                          refine Eq.trans (jr_gf (v := .ref 138) jF_267_13 (by decide +kernel)) ?_
                          refine Eq.trans (jr_s (pc2 := 18) (lv2 := [(0, .ref 117), (1, .int 5)]) (st2 := [.int 18, .ref 138]) jF_267_16 rfl rfl) ?_
                          refine Eq.trans (jr_s (pc2 := 19) (lv2 := [(0, .ref 117), (1, .int 5)]) (st2 := [.int 5, .int 18, .ref 138]) jF_267_18 rfl rfl) ?_
                          refine Eq.trans (jr_s (pc2 := 20) (lv2 := [(0, .ref 117), (1, .int 5)]) (st2 := [.int 23, .ref 138]) jF_267_19 rfl rfl) ?_
                          refine Eq.trans (jr_ldl (v := .long 0) jF_267_20 (by decide +kernel)) ?_
                          exact jr_rl jF_267_21
                        refine Eq.trans (jr_s (pc2 := 6) (lv2 := [(3, .long 0), (0, .ref 117), (1, .int 5), (2, .int a2)]) (st2 := []) jF_266_5 rfl rfl) ?_
                        refine Eq.trans (jr_s (pc2 := 7) (lv2 := [(3, .long 0), (0, .ref 117), (1, .int 5), (2, .int a2)]) (st2 := [.long 0]) jF_266_6 rfl rfl) ?_
                        refine Eq.trans (jr_s (pc2 := 8) (lv2 := [(3, .long 0), (0, .ref 117), (1, .int 5), (2, .int a2)]) (st2 := [.long 0, .long 0]) jF_266_7 rfl rfl) ?_
                        refine Eq.trans (jr_s (pc2 := 9) (lv2 := [(3, .long 0), (0, .ref 117), (1, .int 5), (2, .int a2)]) (st2 := [.int 0]) jF_266_8 rfl rfl) ?_
                        refine Eq.trans (jr_if1 jF_266_9 (by decide +kernel)) ?_
                        refine Eq.trans (jr_s (pc2 := 25) (lv2 := [(3, .long 0), (0, .ref 117), (1, .int 5), (2, .int a2)]) (st2 := [.int (-1)]) jF_266_24 rfl rfl) ?_
                        exact jr_ri jF_266_25 rfl
                    · rcases j_ilt a1.toInt 7 with h_a1_7 | h_a1_7
                      · obtain rfl : a1 = 6 := Int32.toInt_inj.mp (by rw [show (6 : Int32).toInt = 6 from by decide]; omega)
                        refine ⟨60000, 60000, (-1), jh2, jh2, ?_, ?_, by decide +kernel⟩
                        · refine Eq.trans (jr_s (pc2 := 1) (lv2 := [(0, .ref 9), (1, .int 6), (2, .int a2)]) (st2 := [.ref 9]) jF_92_0 rfl rfl) ?_
                          refine Eq.trans (jr_gf (v := .ref 20) jF_92_1 (by decide +kernel)) ?_
                          refine Eq.trans (jr_s (pc2 := 5) (lv2 := [(0, .ref 9), (1, .int 6), (2, .int a2)]) (st2 := [.int 6, .ref 20]) jF_92_4 rfl rfl) ?_
                          refine Eq.trans (jr_s (pc2 := 6) (lv2 := [(0, .ref 9), (1, .int 6), (2, .int a2)]) (st2 := [.int a2, .int 6, .ref 20]) jF_92_5 rfl rfl) ?_
                          refine Eq.trans (jr_cV (a := 20) (as := [.int 6, .int a2]) (rest := []) (v := some (.int (-1))) (hp2 := jh2) (fr2 := 499) (lo2 := 19978) jF_92_6 (by decide +kernel) rfl (show j_cnd 500 20000 499 19978 3 _ _ = true from rfl) ?_) ?_
                          · refine Eq.trans (jr_s (pc2 := 1) (lv2 := [(0, .ref 20), (1, .int 6), (2, .int a2)]) (st2 := [.int 6]) jF_93_0 rfl rfl) ?_
                            refine Eq.trans (jr_if0 jF_93_1 (by decide +kernel)) ?_
                            refine Eq.trans (jr_s (pc2 := 5) (lv2 := [(0, .ref 20), (1, .int 6), (2, .int a2)]) (st2 := [.int 6]) jF_93_4 rfl rfl) ?_
                            refine Eq.trans (jr_s (pc2 := 6) (lv2 := [(0, .ref 20), (1, .int 6), (2, .int a2)]) (st2 := [.ref 20, .int 6]) jF_93_5 rfl rfl) ?_
                            refine Eq.trans (jr_gf (v := .ref 21) jF_93_6 (by decide +kernel)) ?_
                            refine Eq.trans (jr_al (v := 25) jF_93_9 (by decide +kernel)) ?_
                            refine Eq.trans (jr_ic0 jF_93_10 (by decide +kernel)) ?_
                            refine Eq.trans (jr_s (pc2 := 14) (lv2 := [(0, .ref 20), (1, .int 6), (2, .int a2)]) (st2 := [.int a2]) jF_93_13 rfl rfl) ?_
                            refine Eq.trans (jr_if0 jF_93_14 (jk_lt_ge (show (0 : Int32).toInt ≤ (a2 : Int32).toInt by rw [show (0 : Int32).toInt = 0 from by decide]; omega))) ?_
                            refine Eq.trans (jr_s (pc2 := 18) (lv2 := [(0, .ref 20), (1, .int 6), (2, .int a2)]) (st2 := [.int a2]) jF_93_17 rfl rfl) ?_
                            refine Eq.trans (jr_s (pc2 := 20) (lv2 := [(0, .ref 20), (1, .int 6), (2, .int a2)]) (st2 := [.int 6, .int a2]) jF_93_18 rfl rfl) ?_
                            refine Eq.trans (jr_ic0 jF_93_20 (jk_ge_lt (show (a2 : Int32).toInt < (6 : Int32).toInt by rw [show (6 : Int32).toInt = 6 from by decide]; omega))) ?_
                            refine Eq.trans (jr_s (pc2 := 24) (lv2 := [(0, .ref 20), (1, .int 6), (2, .int a2)]) (st2 := [.ref 20]) jF_93_23 rfl rfl) ?_
                            refine Eq.trans (jr_gf (v := .ref 21) jF_93_24 (by decide +kernel)) ?_
                            refine Eq.trans (jr_s (pc2 := 28) (lv2 := [(0, .ref 20), (1, .int 6), (2, .int a2)]) (st2 := [.int 6, .ref 21]) jF_93_27 rfl rfl) ?_
                            refine Eq.trans (jr_ldi (v := .int 0) jF_93_28 (by decide +kernel)) ?_
                            refine Eq.trans (jr_if0 jF_93_29 (by decide +kernel)) ?_
                            refine Eq.trans (jr_s (pc2 := 33) (lv2 := [(0, .ref 20), (1, .int 6), (2, .int a2)]) (st2 := [.int (-1)]) jF_93_32 rfl rfl) ?_
                            exact jr_ri jF_93_33 rfl
                          exact jr_ri jF_92_9 rfl
                        · refine Eq.trans (jr_s (pc2 := 1) (lv2 := [(0, .ref 117), (1, .int 6), (2, .int a2)]) (st2 := [.ref 117]) jF_266_0 rfl rfl) ?_
                          refine Eq.trans (jr_s (pc2 := 2) (lv2 := [(0, .ref 117), (1, .int 6), (2, .int a2)]) (st2 := [.int 6, .ref 117]) jF_266_1 rfl rfl) ?_
                          refine Eq.trans (jr_cV (a := 117) (as := [.int 6]) (rest := []) (v := some (.long 0)) (hp2 := jh2) (fr2 := 499) (lo2 := 19979) jF_266_2 (by decide +kernel) rfl (show j_cnd 500 20000 499 19979 2 _ _ = true from rfl) ?_) ?_
                          · refine Eq.trans (jr_s (pc2 := 1) (lv2 := [(0, .ref 117), (1, .int 6)]) (st2 := [.int 6]) jF_267_0 rfl rfl) ?_
                            refine Eq.trans (jr_s (pc2 := 2) (lv2 := [(0, .ref 117), (1, .int 6)]) (st2 := [.long 6]) jF_267_1 rfl rfl) ?_
                            refine Eq.trans (jr_s (pc2 := 3) (lv2 := [(0, .ref 117), (1, .int 6)]) (st2 := [.long 0, .long 6]) jF_267_2 rfl rfl) ?_
                            refine Eq.trans (jr_s (pc2 := 6) (lv2 := [(0, .ref 117), (1, .int 6)]) (st2 := [.long 17, .long 0, .long 6]) jF_267_3 rfl rfl) ?_
                            refine Eq.trans (jr_cS (as := [.long 6, .long 0, .long 17]) (rest := []) (v := some (.int 1)) (hp2 := jh2) (fr2 := 498) (lo2 := 19954) jF_267_6 rfl (show j_cnd 499 19979 498 19954 6 _ _ = true from rfl) ?_) ?_
                            · refine Eq.trans (jr_s (pc2 := 1) (lv2 := [(0, .long 6), (2, .long 0), (4, .long 17)]) (st2 := [.long 6]) jF_232_0 rfl rfl) ?_
                              refine Eq.trans (jr_s (pc2 := 2) (lv2 := [(0, .long 6), (2, .long 0), (4, .long 17)]) (st2 := [.long 0, .long 6]) jF_232_1 rfl rfl) ?_
                              refine Eq.trans (jr_s (pc2 := 3) (lv2 := [(0, .long 6), (2, .long 0), (4, .long 17)]) (st2 := [.int 1]) jF_232_2 rfl rfl) ?_
                              refine Eq.trans (jr_if0 jF_232_3 (by decide +kernel)) ?_
                              refine Eq.trans (jr_s (pc2 := 7) (lv2 := [(0, .long 6), (2, .long 0), (4, .long 17)]) (st2 := [.long 6]) jF_232_6 rfl rfl) ?_
                              refine Eq.trans (jr_s (pc2 := 9) (lv2 := [(0, .long 6), (2, .long 0), (4, .long 17)]) (st2 := [.long 17, .long 6]) jF_232_7 rfl rfl) ?_
                              refine Eq.trans (jr_s (pc2 := 10) (lv2 := [(0, .long 6), (2, .long 0), (4, .long 17)]) (st2 := [.int (-1)]) jF_232_9 rfl rfl) ?_
                              refine Eq.trans (jr_if0 jF_232_10 (by decide +kernel)) ?_
                              refine Eq.trans (jr_s (pc2 := 14) (lv2 := [(0, .long 6), (2, .long 0), (4, .long 17)]) (st2 := [.int 1]) jF_232_13 rfl rfl) ?_
                              refine Eq.trans (jr_s (pc2 := 18) (lv2 := [(0, .long 6), (2, .long 0), (4, .long 17)]) (st2 := [.int 1]) jF_232_14 rfl rfl) ?_
                              exact jr_ri jF_232_18 rfl
                            refine Eq.trans (jr_if0 jF_267_9 (by decide +kernel)) ?_
                            refine Eq.trans (jr_s (pc2 := 13) (lv2 := [(0, .ref 117), (1, .int 6)]) (st2 := [.ref 117]) jF_267_12 rfl rfl) ?_
                            refine Eq.trans (jr_gf (v := .ref 138) jF_267_13 (by decide +kernel)) ?_
                            refine Eq.trans (jr_s (pc2 := 18) (lv2 := [(0, .ref 117), (1, .int 6)]) (st2 := [.int 18, .ref 138]) jF_267_16 rfl rfl) ?_
                            refine Eq.trans (jr_s (pc2 := 19) (lv2 := [(0, .ref 117), (1, .int 6)]) (st2 := [.int 6, .int 18, .ref 138]) jF_267_18 rfl rfl) ?_
                            refine Eq.trans (jr_s (pc2 := 20) (lv2 := [(0, .ref 117), (1, .int 6)]) (st2 := [.int 24, .ref 138]) jF_267_19 rfl rfl) ?_
                            refine Eq.trans (jr_ldl (v := .long 0) jF_267_20 (by decide +kernel)) ?_
                            exact jr_rl jF_267_21
                          refine Eq.trans (jr_s (pc2 := 6) (lv2 := [(3, .long 0), (0, .ref 117), (1, .int 6), (2, .int a2)]) (st2 := []) jF_266_5 rfl rfl) ?_
                          refine Eq.trans (jr_s (pc2 := 7) (lv2 := [(3, .long 0), (0, .ref 117), (1, .int 6), (2, .int a2)]) (st2 := [.long 0]) jF_266_6 rfl rfl) ?_
                          refine Eq.trans (jr_s (pc2 := 8) (lv2 := [(3, .long 0), (0, .ref 117), (1, .int 6), (2, .int a2)]) (st2 := [.long 0, .long 0]) jF_266_7 rfl rfl) ?_
                          refine Eq.trans (jr_s (pc2 := 9) (lv2 := [(3, .long 0), (0, .ref 117), (1, .int 6), (2, .int a2)]) (st2 := [.int 0]) jF_266_8 rfl rfl) ?_
                          refine Eq.trans (jr_if1 jF_266_9 (by decide +kernel)) ?_
                          refine Eq.trans (jr_s (pc2 := 25) (lv2 := [(3, .long 0), (0, .ref 117), (1, .int 6), (2, .int a2)]) (st2 := [.int (-1)]) jF_266_24 rfl rfl) ?_
                          exact jr_ri jF_266_25 rfl
                      · rcases j_ilt a1.toInt 8 with h_a1_8 | h_a1_8
                        · obtain rfl : a1 = 7 := Int32.toInt_inj.mp (by rw [show (7 : Int32).toInt = 7 from by decide]; omega)
                          refine ⟨60000, 60000, (-1), jh2, jh2, ?_, ?_, by decide +kernel⟩
                          · refine Eq.trans (jr_s (pc2 := 1) (lv2 := [(0, .ref 9), (1, .int 7), (2, .int a2)]) (st2 := [.ref 9]) jF_92_0 rfl rfl) ?_
                            refine Eq.trans (jr_gf (v := .ref 20) jF_92_1 (by decide +kernel)) ?_
                            refine Eq.trans (jr_s (pc2 := 5) (lv2 := [(0, .ref 9), (1, .int 7), (2, .int a2)]) (st2 := [.int 7, .ref 20]) jF_92_4 rfl rfl) ?_
                            refine Eq.trans (jr_s (pc2 := 6) (lv2 := [(0, .ref 9), (1, .int 7), (2, .int a2)]) (st2 := [.int a2, .int 7, .ref 20]) jF_92_5 rfl rfl) ?_
                            refine Eq.trans (jr_cV (a := 20) (as := [.int 7, .int a2]) (rest := []) (v := some (.int (-1))) (hp2 := jh2) (fr2 := 499) (lo2 := 19978) jF_92_6 (by decide +kernel) rfl (show j_cnd 500 20000 499 19978 3 _ _ = true from rfl) ?_) ?_
                            · refine Eq.trans (jr_s (pc2 := 1) (lv2 := [(0, .ref 20), (1, .int 7), (2, .int a2)]) (st2 := [.int 7]) jF_93_0 rfl rfl) ?_
                              refine Eq.trans (jr_if0 jF_93_1 (by decide +kernel)) ?_
                              refine Eq.trans (jr_s (pc2 := 5) (lv2 := [(0, .ref 20), (1, .int 7), (2, .int a2)]) (st2 := [.int 7]) jF_93_4 rfl rfl) ?_
                              refine Eq.trans (jr_s (pc2 := 6) (lv2 := [(0, .ref 20), (1, .int 7), (2, .int a2)]) (st2 := [.ref 20, .int 7]) jF_93_5 rfl rfl) ?_
                              refine Eq.trans (jr_gf (v := .ref 21) jF_93_6 (by decide +kernel)) ?_
                              refine Eq.trans (jr_al (v := 25) jF_93_9 (by decide +kernel)) ?_
                              refine Eq.trans (jr_ic0 jF_93_10 (by decide +kernel)) ?_
                              refine Eq.trans (jr_s (pc2 := 14) (lv2 := [(0, .ref 20), (1, .int 7), (2, .int a2)]) (st2 := [.int a2]) jF_93_13 rfl rfl) ?_
                              refine Eq.trans (jr_if0 jF_93_14 (jk_lt_ge (show (0 : Int32).toInt ≤ (a2 : Int32).toInt by rw [show (0 : Int32).toInt = 0 from by decide]; omega))) ?_
                              refine Eq.trans (jr_s (pc2 := 18) (lv2 := [(0, .ref 20), (1, .int 7), (2, .int a2)]) (st2 := [.int a2]) jF_93_17 rfl rfl) ?_
                              refine Eq.trans (jr_s (pc2 := 20) (lv2 := [(0, .ref 20), (1, .int 7), (2, .int a2)]) (st2 := [.int 6, .int a2]) jF_93_18 rfl rfl) ?_
                              refine Eq.trans (jr_ic0 jF_93_20 (jk_ge_lt (show (a2 : Int32).toInt < (6 : Int32).toInt by rw [show (6 : Int32).toInt = 6 from by decide]; omega))) ?_
                              refine Eq.trans (jr_s (pc2 := 24) (lv2 := [(0, .ref 20), (1, .int 7), (2, .int a2)]) (st2 := [.ref 20]) jF_93_23 rfl rfl) ?_
                              refine Eq.trans (jr_gf (v := .ref 21) jF_93_24 (by decide +kernel)) ?_
                              refine Eq.trans (jr_s (pc2 := 28) (lv2 := [(0, .ref 20), (1, .int 7), (2, .int a2)]) (st2 := [.int 7, .ref 21]) jF_93_27 rfl rfl) ?_
                              refine Eq.trans (jr_ldi (v := .int 0) jF_93_28 (by decide +kernel)) ?_
                              refine Eq.trans (jr_if0 jF_93_29 (by decide +kernel)) ?_
                              refine Eq.trans (jr_s (pc2 := 33) (lv2 := [(0, .ref 20), (1, .int 7), (2, .int a2)]) (st2 := [.int (-1)]) jF_93_32 rfl rfl) ?_
                              exact jr_ri jF_93_33 rfl
                            exact jr_ri jF_92_9 rfl
                          · refine Eq.trans (jr_s (pc2 := 1) (lv2 := [(0, .ref 117), (1, .int 7), (2, .int a2)]) (st2 := [.ref 117]) jF_266_0 rfl rfl) ?_
                            refine Eq.trans (jr_s (pc2 := 2) (lv2 := [(0, .ref 117), (1, .int 7), (2, .int a2)]) (st2 := [.int 7, .ref 117]) jF_266_1 rfl rfl) ?_
                            refine Eq.trans (jr_cV (a := 117) (as := [.int 7]) (rest := []) (v := some (.long 0)) (hp2 := jh2) (fr2 := 499) (lo2 := 19979) jF_266_2 (by decide +kernel) rfl (show j_cnd 500 20000 499 19979 2 _ _ = true from rfl) ?_) ?_
                            · refine Eq.trans (jr_s (pc2 := 1) (lv2 := [(0, .ref 117), (1, .int 7)]) (st2 := [.int 7]) jF_267_0 rfl rfl) ?_
                              refine Eq.trans (jr_s (pc2 := 2) (lv2 := [(0, .ref 117), (1, .int 7)]) (st2 := [.long 7]) jF_267_1 rfl rfl) ?_
                              refine Eq.trans (jr_s (pc2 := 3) (lv2 := [(0, .ref 117), (1, .int 7)]) (st2 := [.long 0, .long 7]) jF_267_2 rfl rfl) ?_
                              refine Eq.trans (jr_s (pc2 := 6) (lv2 := [(0, .ref 117), (1, .int 7)]) (st2 := [.long 17, .long 0, .long 7]) jF_267_3 rfl rfl) ?_
                              refine Eq.trans (jr_cS (as := [.long 7, .long 0, .long 17]) (rest := []) (v := some (.int 1)) (hp2 := jh2) (fr2 := 498) (lo2 := 19954) jF_267_6 rfl (show j_cnd 499 19979 498 19954 6 _ _ = true from rfl) ?_) ?_
                              · refine Eq.trans (jr_s (pc2 := 1) (lv2 := [(0, .long 7), (2, .long 0), (4, .long 17)]) (st2 := [.long 7]) jF_232_0 rfl rfl) ?_
                                refine Eq.trans (jr_s (pc2 := 2) (lv2 := [(0, .long 7), (2, .long 0), (4, .long 17)]) (st2 := [.long 0, .long 7]) jF_232_1 rfl rfl) ?_
                                refine Eq.trans (jr_s (pc2 := 3) (lv2 := [(0, .long 7), (2, .long 0), (4, .long 17)]) (st2 := [.int 1]) jF_232_2 rfl rfl) ?_
                                refine Eq.trans (jr_if0 jF_232_3 (by decide +kernel)) ?_
                                refine Eq.trans (jr_s (pc2 := 7) (lv2 := [(0, .long 7), (2, .long 0), (4, .long 17)]) (st2 := [.long 7]) jF_232_6 rfl rfl) ?_
                                refine Eq.trans (jr_s (pc2 := 9) (lv2 := [(0, .long 7), (2, .long 0), (4, .long 17)]) (st2 := [.long 17, .long 7]) jF_232_7 rfl rfl) ?_
                                refine Eq.trans (jr_s (pc2 := 10) (lv2 := [(0, .long 7), (2, .long 0), (4, .long 17)]) (st2 := [.int (-1)]) jF_232_9 rfl rfl) ?_
                                refine Eq.trans (jr_if0 jF_232_10 (by decide +kernel)) ?_
                                refine Eq.trans (jr_s (pc2 := 14) (lv2 := [(0, .long 7), (2, .long 0), (4, .long 17)]) (st2 := [.int 1]) jF_232_13 rfl rfl) ?_
                                refine Eq.trans (jr_s (pc2 := 18) (lv2 := [(0, .long 7), (2, .long 0), (4, .long 17)]) (st2 := [.int 1]) jF_232_14 rfl rfl) ?_
                                exact jr_ri jF_232_18 rfl
                              refine Eq.trans (jr_if0 jF_267_9 (by decide +kernel)) ?_
                              refine Eq.trans (jr_s (pc2 := 13) (lv2 := [(0, .ref 117), (1, .int 7)]) (st2 := [.ref 117]) jF_267_12 rfl rfl) ?_
                              refine Eq.trans (jr_gf (v := .ref 138) jF_267_13 (by decide +kernel)) ?_
                              refine Eq.trans (jr_s (pc2 := 18) (lv2 := [(0, .ref 117), (1, .int 7)]) (st2 := [.int 18, .ref 138]) jF_267_16 rfl rfl) ?_
                              refine Eq.trans (jr_s (pc2 := 19) (lv2 := [(0, .ref 117), (1, .int 7)]) (st2 := [.int 7, .int 18, .ref 138]) jF_267_18 rfl rfl) ?_
                              refine Eq.trans (jr_s (pc2 := 20) (lv2 := [(0, .ref 117), (1, .int 7)]) (st2 := [.int 25, .ref 138]) jF_267_19 rfl rfl) ?_
                              refine Eq.trans (jr_ldl (v := .long 0) jF_267_20 (by decide +kernel)) ?_
                              exact jr_rl jF_267_21
                            refine Eq.trans (jr_s (pc2 := 6) (lv2 := [(3, .long 0), (0, .ref 117), (1, .int 7), (2, .int a2)]) (st2 := []) jF_266_5 rfl rfl) ?_
                            refine Eq.trans (jr_s (pc2 := 7) (lv2 := [(3, .long 0), (0, .ref 117), (1, .int 7), (2, .int a2)]) (st2 := [.long 0]) jF_266_6 rfl rfl) ?_
                            refine Eq.trans (jr_s (pc2 := 8) (lv2 := [(3, .long 0), (0, .ref 117), (1, .int 7), (2, .int a2)]) (st2 := [.long 0, .long 0]) jF_266_7 rfl rfl) ?_
                            refine Eq.trans (jr_s (pc2 := 9) (lv2 := [(3, .long 0), (0, .ref 117), (1, .int 7), (2, .int a2)]) (st2 := [.int 0]) jF_266_8 rfl rfl) ?_
                            refine Eq.trans (jr_if1 jF_266_9 (by decide +kernel)) ?_
                            refine Eq.trans (jr_s (pc2 := 25) (lv2 := [(3, .long 0), (0, .ref 117), (1, .int 7), (2, .int a2)]) (st2 := [.int (-1)]) jF_266_24 rfl rfl) ?_
                            exact jr_ri jF_266_25 rfl
                        · rcases j_ilt a1.toInt 9 with h_a1_9 | h_a1_9
                          · obtain rfl : a1 = 8 := Int32.toInt_inj.mp (by rw [show (8 : Int32).toInt = 8 from by decide]; omega)
                            refine ⟨60000, 60000, (-1), jh2, jh2, ?_, ?_, by decide +kernel⟩
                            · refine Eq.trans (jr_s (pc2 := 1) (lv2 := [(0, .ref 9), (1, .int 8), (2, .int a2)]) (st2 := [.ref 9]) jF_92_0 rfl rfl) ?_
                              refine Eq.trans (jr_gf (v := .ref 20) jF_92_1 (by decide +kernel)) ?_
                              refine Eq.trans (jr_s (pc2 := 5) (lv2 := [(0, .ref 9), (1, .int 8), (2, .int a2)]) (st2 := [.int 8, .ref 20]) jF_92_4 rfl rfl) ?_
                              refine Eq.trans (jr_s (pc2 := 6) (lv2 := [(0, .ref 9), (1, .int 8), (2, .int a2)]) (st2 := [.int a2, .int 8, .ref 20]) jF_92_5 rfl rfl) ?_
                              refine Eq.trans (jr_cV (a := 20) (as := [.int 8, .int a2]) (rest := []) (v := some (.int (-1))) (hp2 := jh2) (fr2 := 499) (lo2 := 19978) jF_92_6 (by decide +kernel) rfl (show j_cnd 500 20000 499 19978 3 _ _ = true from rfl) ?_) ?_
                              · refine Eq.trans (jr_s (pc2 := 1) (lv2 := [(0, .ref 20), (1, .int 8), (2, .int a2)]) (st2 := [.int 8]) jF_93_0 rfl rfl) ?_
                                refine Eq.trans (jr_if0 jF_93_1 (by decide +kernel)) ?_
                                refine Eq.trans (jr_s (pc2 := 5) (lv2 := [(0, .ref 20), (1, .int 8), (2, .int a2)]) (st2 := [.int 8]) jF_93_4 rfl rfl) ?_
                                refine Eq.trans (jr_s (pc2 := 6) (lv2 := [(0, .ref 20), (1, .int 8), (2, .int a2)]) (st2 := [.ref 20, .int 8]) jF_93_5 rfl rfl) ?_
                                refine Eq.trans (jr_gf (v := .ref 21) jF_93_6 (by decide +kernel)) ?_
                                refine Eq.trans (jr_al (v := 25) jF_93_9 (by decide +kernel)) ?_
                                refine Eq.trans (jr_ic0 jF_93_10 (by decide +kernel)) ?_
                                refine Eq.trans (jr_s (pc2 := 14) (lv2 := [(0, .ref 20), (1, .int 8), (2, .int a2)]) (st2 := [.int a2]) jF_93_13 rfl rfl) ?_
                                refine Eq.trans (jr_if0 jF_93_14 (jk_lt_ge (show (0 : Int32).toInt ≤ (a2 : Int32).toInt by rw [show (0 : Int32).toInt = 0 from by decide]; omega))) ?_
                                refine Eq.trans (jr_s (pc2 := 18) (lv2 := [(0, .ref 20), (1, .int 8), (2, .int a2)]) (st2 := [.int a2]) jF_93_17 rfl rfl) ?_
                                refine Eq.trans (jr_s (pc2 := 20) (lv2 := [(0, .ref 20), (1, .int 8), (2, .int a2)]) (st2 := [.int 6, .int a2]) jF_93_18 rfl rfl) ?_
                                refine Eq.trans (jr_ic0 jF_93_20 (jk_ge_lt (show (a2 : Int32).toInt < (6 : Int32).toInt by rw [show (6 : Int32).toInt = 6 from by decide]; omega))) ?_
                                refine Eq.trans (jr_s (pc2 := 24) (lv2 := [(0, .ref 20), (1, .int 8), (2, .int a2)]) (st2 := [.ref 20]) jF_93_23 rfl rfl) ?_
                                refine Eq.trans (jr_gf (v := .ref 21) jF_93_24 (by decide +kernel)) ?_
                                refine Eq.trans (jr_s (pc2 := 28) (lv2 := [(0, .ref 20), (1, .int 8), (2, .int a2)]) (st2 := [.int 8, .ref 21]) jF_93_27 rfl rfl) ?_
                                refine Eq.trans (jr_ldi (v := .int 0) jF_93_28 (by decide +kernel)) ?_
                                refine Eq.trans (jr_if0 jF_93_29 (by decide +kernel)) ?_
                                refine Eq.trans (jr_s (pc2 := 33) (lv2 := [(0, .ref 20), (1, .int 8), (2, .int a2)]) (st2 := [.int (-1)]) jF_93_32 rfl rfl) ?_
                                exact jr_ri jF_93_33 rfl
                              exact jr_ri jF_92_9 rfl
                            · refine Eq.trans (jr_s (pc2 := 1) (lv2 := [(0, .ref 117), (1, .int 8), (2, .int a2)]) (st2 := [.ref 117]) jF_266_0 rfl rfl) ?_
                              refine Eq.trans (jr_s (pc2 := 2) (lv2 := [(0, .ref 117), (1, .int 8), (2, .int a2)]) (st2 := [.int 8, .ref 117]) jF_266_1 rfl rfl) ?_
                              refine Eq.trans (jr_cV (a := 117) (as := [.int 8]) (rest := []) (v := some (.long 0)) (hp2 := jh2) (fr2 := 499) (lo2 := 19979) jF_266_2 (by decide +kernel) rfl (show j_cnd 500 20000 499 19979 2 _ _ = true from rfl) ?_) ?_
                              · refine Eq.trans (jr_s (pc2 := 1) (lv2 := [(0, .ref 117), (1, .int 8)]) (st2 := [.int 8]) jF_267_0 rfl rfl) ?_
                                refine Eq.trans (jr_s (pc2 := 2) (lv2 := [(0, .ref 117), (1, .int 8)]) (st2 := [.long 8]) jF_267_1 rfl rfl) ?_
                                refine Eq.trans (jr_s (pc2 := 3) (lv2 := [(0, .ref 117), (1, .int 8)]) (st2 := [.long 0, .long 8]) jF_267_2 rfl rfl) ?_
                                refine Eq.trans (jr_s (pc2 := 6) (lv2 := [(0, .ref 117), (1, .int 8)]) (st2 := [.long 17, .long 0, .long 8]) jF_267_3 rfl rfl) ?_
                                refine Eq.trans (jr_cS (as := [.long 8, .long 0, .long 17]) (rest := []) (v := some (.int 1)) (hp2 := jh2) (fr2 := 498) (lo2 := 19954) jF_267_6 rfl (show j_cnd 499 19979 498 19954 6 _ _ = true from rfl) ?_) ?_
                                · refine Eq.trans (jr_s (pc2 := 1) (lv2 := [(0, .long 8), (2, .long 0), (4, .long 17)]) (st2 := [.long 8]) jF_232_0 rfl rfl) ?_
                                  refine Eq.trans (jr_s (pc2 := 2) (lv2 := [(0, .long 8), (2, .long 0), (4, .long 17)]) (st2 := [.long 0, .long 8]) jF_232_1 rfl rfl) ?_
                                  refine Eq.trans (jr_s (pc2 := 3) (lv2 := [(0, .long 8), (2, .long 0), (4, .long 17)]) (st2 := [.int 1]) jF_232_2 rfl rfl) ?_
                                  refine Eq.trans (jr_if0 jF_232_3 (by decide +kernel)) ?_
                                  refine Eq.trans (jr_s (pc2 := 7) (lv2 := [(0, .long 8), (2, .long 0), (4, .long 17)]) (st2 := [.long 8]) jF_232_6 rfl rfl) ?_
                                  refine Eq.trans (jr_s (pc2 := 9) (lv2 := [(0, .long 8), (2, .long 0), (4, .long 17)]) (st2 := [.long 17, .long 8]) jF_232_7 rfl rfl) ?_
                                  refine Eq.trans (jr_s (pc2 := 10) (lv2 := [(0, .long 8), (2, .long 0), (4, .long 17)]) (st2 := [.int (-1)]) jF_232_9 rfl rfl) ?_
                                  refine Eq.trans (jr_if0 jF_232_10 (by decide +kernel)) ?_
                                  refine Eq.trans (jr_s (pc2 := 14) (lv2 := [(0, .long 8), (2, .long 0), (4, .long 17)]) (st2 := [.int 1]) jF_232_13 rfl rfl) ?_
                                  refine Eq.trans (jr_s (pc2 := 18) (lv2 := [(0, .long 8), (2, .long 0), (4, .long 17)]) (st2 := [.int 1]) jF_232_14 rfl rfl) ?_
                                  exact jr_ri jF_232_18 rfl
                                refine Eq.trans (jr_if0 jF_267_9 (by decide +kernel)) ?_
                                refine Eq.trans (jr_s (pc2 := 13) (lv2 := [(0, .ref 117), (1, .int 8)]) (st2 := [.ref 117]) jF_267_12 rfl rfl) ?_
                                refine Eq.trans (jr_gf (v := .ref 138) jF_267_13 (by decide +kernel)) ?_
                                refine Eq.trans (jr_s (pc2 := 18) (lv2 := [(0, .ref 117), (1, .int 8)]) (st2 := [.int 18, .ref 138]) jF_267_16 rfl rfl) ?_
                                refine Eq.trans (jr_s (pc2 := 19) (lv2 := [(0, .ref 117), (1, .int 8)]) (st2 := [.int 8, .int 18, .ref 138]) jF_267_18 rfl rfl) ?_
                                refine Eq.trans (jr_s (pc2 := 20) (lv2 := [(0, .ref 117), (1, .int 8)]) (st2 := [.int 26, .ref 138]) jF_267_19 rfl rfl) ?_
                                refine Eq.trans (jr_ldl (v := .long 0) jF_267_20 (by decide +kernel)) ?_
                                exact jr_rl jF_267_21
                              refine Eq.trans (jr_s (pc2 := 6) (lv2 := [(3, .long 0), (0, .ref 117), (1, .int 8), (2, .int a2)]) (st2 := []) jF_266_5 rfl rfl) ?_
                              refine Eq.trans (jr_s (pc2 := 7) (lv2 := [(3, .long 0), (0, .ref 117), (1, .int 8), (2, .int a2)]) (st2 := [.long 0]) jF_266_6 rfl rfl) ?_
                              refine Eq.trans (jr_s (pc2 := 8) (lv2 := [(3, .long 0), (0, .ref 117), (1, .int 8), (2, .int a2)]) (st2 := [.long 0, .long 0]) jF_266_7 rfl rfl) ?_
                              refine Eq.trans (jr_s (pc2 := 9) (lv2 := [(3, .long 0), (0, .ref 117), (1, .int 8), (2, .int a2)]) (st2 := [.int 0]) jF_266_8 rfl rfl) ?_
                              refine Eq.trans (jr_if1 jF_266_9 (by decide +kernel)) ?_
                              refine Eq.trans (jr_s (pc2 := 25) (lv2 := [(3, .long 0), (0, .ref 117), (1, .int 8), (2, .int a2)]) (st2 := [.int (-1)]) jF_266_24 rfl rfl) ?_
                              exact jr_ri jF_266_25 rfl
                          · rcases j_ilt a1.toInt 10 with h_a1_10 | h_a1_10
                            · obtain rfl : a1 = 9 := Int32.toInt_inj.mp (by rw [show (9 : Int32).toInt = 9 from by decide]; omega)
                              refine ⟨60000, 60000, (-1), jh2, jh2, ?_, ?_, by decide +kernel⟩
                              · refine Eq.trans (jr_s (pc2 := 1) (lv2 := [(0, .ref 9), (1, .int 9), (2, .int a2)]) (st2 := [.ref 9]) jF_92_0 rfl rfl) ?_
                                refine Eq.trans (jr_gf (v := .ref 20) jF_92_1 (by decide +kernel)) ?_
                                refine Eq.trans (jr_s (pc2 := 5) (lv2 := [(0, .ref 9), (1, .int 9), (2, .int a2)]) (st2 := [.int 9, .ref 20]) jF_92_4 rfl rfl) ?_
                                refine Eq.trans (jr_s (pc2 := 6) (lv2 := [(0, .ref 9), (1, .int 9), (2, .int a2)]) (st2 := [.int a2, .int 9, .ref 20]) jF_92_5 rfl rfl) ?_
                                refine Eq.trans (jr_cV (a := 20) (as := [.int 9, .int a2]) (rest := []) (v := some (.int (-1))) (hp2 := jh2) (fr2 := 499) (lo2 := 19978) jF_92_6 (by decide +kernel) rfl (show j_cnd 500 20000 499 19978 3 _ _ = true from rfl) ?_) ?_
                                · refine Eq.trans (jr_s (pc2 := 1) (lv2 := [(0, .ref 20), (1, .int 9), (2, .int a2)]) (st2 := [.int 9]) jF_93_0 rfl rfl) ?_
                                  refine Eq.trans (jr_if0 jF_93_1 (by decide +kernel)) ?_
                                  refine Eq.trans (jr_s (pc2 := 5) (lv2 := [(0, .ref 20), (1, .int 9), (2, .int a2)]) (st2 := [.int 9]) jF_93_4 rfl rfl) ?_
                                  refine Eq.trans (jr_s (pc2 := 6) (lv2 := [(0, .ref 20), (1, .int 9), (2, .int a2)]) (st2 := [.ref 20, .int 9]) jF_93_5 rfl rfl) ?_
                                  refine Eq.trans (jr_gf (v := .ref 21) jF_93_6 (by decide +kernel)) ?_
                                  refine Eq.trans (jr_al (v := 25) jF_93_9 (by decide +kernel)) ?_
                                  refine Eq.trans (jr_ic0 jF_93_10 (by decide +kernel)) ?_
                                  refine Eq.trans (jr_s (pc2 := 14) (lv2 := [(0, .ref 20), (1, .int 9), (2, .int a2)]) (st2 := [.int a2]) jF_93_13 rfl rfl) ?_
                                  refine Eq.trans (jr_if0 jF_93_14 (jk_lt_ge (show (0 : Int32).toInt ≤ (a2 : Int32).toInt by rw [show (0 : Int32).toInt = 0 from by decide]; omega))) ?_
                                  refine Eq.trans (jr_s (pc2 := 18) (lv2 := [(0, .ref 20), (1, .int 9), (2, .int a2)]) (st2 := [.int a2]) jF_93_17 rfl rfl) ?_
                                  refine Eq.trans (jr_s (pc2 := 20) (lv2 := [(0, .ref 20), (1, .int 9), (2, .int a2)]) (st2 := [.int 6, .int a2]) jF_93_18 rfl rfl) ?_
                                  refine Eq.trans (jr_ic0 jF_93_20 (jk_ge_lt (show (a2 : Int32).toInt < (6 : Int32).toInt by rw [show (6 : Int32).toInt = 6 from by decide]; omega))) ?_
                                  refine Eq.trans (jr_s (pc2 := 24) (lv2 := [(0, .ref 20), (1, .int 9), (2, .int a2)]) (st2 := [.ref 20]) jF_93_23 rfl rfl) ?_
                                  refine Eq.trans (jr_gf (v := .ref 21) jF_93_24 (by decide +kernel)) ?_
                                  refine Eq.trans (jr_s (pc2 := 28) (lv2 := [(0, .ref 20), (1, .int 9), (2, .int a2)]) (st2 := [.int 9, .ref 21]) jF_93_27 rfl rfl) ?_
                                  refine Eq.trans (jr_ldi (v := .int 0) jF_93_28 (by decide +kernel)) ?_
                                  refine Eq.trans (jr_if0 jF_93_29 (by decide +kernel)) ?_
                                  refine Eq.trans (jr_s (pc2 := 33) (lv2 := [(0, .ref 20), (1, .int 9), (2, .int a2)]) (st2 := [.int (-1)]) jF_93_32 rfl rfl) ?_
                                  exact jr_ri jF_93_33 rfl
                                exact jr_ri jF_92_9 rfl
                              · refine Eq.trans (jr_s (pc2 := 1) (lv2 := [(0, .ref 117), (1, .int 9), (2, .int a2)]) (st2 := [.ref 117]) jF_266_0 rfl rfl) ?_
                                refine Eq.trans (jr_s (pc2 := 2) (lv2 := [(0, .ref 117), (1, .int 9), (2, .int a2)]) (st2 := [.int 9, .ref 117]) jF_266_1 rfl rfl) ?_
                                refine Eq.trans (jr_cV (a := 117) (as := [.int 9]) (rest := []) (v := some (.long 0)) (hp2 := jh2) (fr2 := 499) (lo2 := 19979) jF_266_2 (by decide +kernel) rfl (show j_cnd 500 20000 499 19979 2 _ _ = true from rfl) ?_) ?_
                                · refine Eq.trans (jr_s (pc2 := 1) (lv2 := [(0, .ref 117), (1, .int 9)]) (st2 := [.int 9]) jF_267_0 rfl rfl) ?_
                                  refine Eq.trans (jr_s (pc2 := 2) (lv2 := [(0, .ref 117), (1, .int 9)]) (st2 := [.long 9]) jF_267_1 rfl rfl) ?_
                                  refine Eq.trans (jr_s (pc2 := 3) (lv2 := [(0, .ref 117), (1, .int 9)]) (st2 := [.long 0, .long 9]) jF_267_2 rfl rfl) ?_
                                  refine Eq.trans (jr_s (pc2 := 6) (lv2 := [(0, .ref 117), (1, .int 9)]) (st2 := [.long 17, .long 0, .long 9]) jF_267_3 rfl rfl) ?_
                                  refine Eq.trans (jr_cS (as := [.long 9, .long 0, .long 17]) (rest := []) (v := some (.int 1)) (hp2 := jh2) (fr2 := 498) (lo2 := 19954) jF_267_6 rfl (show j_cnd 499 19979 498 19954 6 _ _ = true from rfl) ?_) ?_
                                  · refine Eq.trans (jr_s (pc2 := 1) (lv2 := [(0, .long 9), (2, .long 0), (4, .long 17)]) (st2 := [.long 9]) jF_232_0 rfl rfl) ?_
                                    refine Eq.trans (jr_s (pc2 := 2) (lv2 := [(0, .long 9), (2, .long 0), (4, .long 17)]) (st2 := [.long 0, .long 9]) jF_232_1 rfl rfl) ?_
                                    refine Eq.trans (jr_s (pc2 := 3) (lv2 := [(0, .long 9), (2, .long 0), (4, .long 17)]) (st2 := [.int 1]) jF_232_2 rfl rfl) ?_
                                    refine Eq.trans (jr_if0 jF_232_3 (by decide +kernel)) ?_
                                    refine Eq.trans (jr_s (pc2 := 7) (lv2 := [(0, .long 9), (2, .long 0), (4, .long 17)]) (st2 := [.long 9]) jF_232_6 rfl rfl) ?_
                                    refine Eq.trans (jr_s (pc2 := 9) (lv2 := [(0, .long 9), (2, .long 0), (4, .long 17)]) (st2 := [.long 17, .long 9]) jF_232_7 rfl rfl) ?_
                                    refine Eq.trans (jr_s (pc2 := 10) (lv2 := [(0, .long 9), (2, .long 0), (4, .long 17)]) (st2 := [.int (-1)]) jF_232_9 rfl rfl) ?_
                                    refine Eq.trans (jr_if0 jF_232_10 (by decide +kernel)) ?_
                                    refine Eq.trans (jr_s (pc2 := 14) (lv2 := [(0, .long 9), (2, .long 0), (4, .long 17)]) (st2 := [.int 1]) jF_232_13 rfl rfl) ?_
                                    refine Eq.trans (jr_s (pc2 := 18) (lv2 := [(0, .long 9), (2, .long 0), (4, .long 17)]) (st2 := [.int 1]) jF_232_14 rfl rfl) ?_
                                    exact jr_ri jF_232_18 rfl
                                  refine Eq.trans (jr_if0 jF_267_9 (by decide +kernel)) ?_
                                  refine Eq.trans (jr_s (pc2 := 13) (lv2 := [(0, .ref 117), (1, .int 9)]) (st2 := [.ref 117]) jF_267_12 rfl rfl) ?_
                                  refine Eq.trans (jr_gf (v := .ref 138) jF_267_13 (by decide +kernel)) ?_
                                  refine Eq.trans (jr_s (pc2 := 18) (lv2 := [(0, .ref 117), (1, .int 9)]) (st2 := [.int 18, .ref 138]) jF_267_16 rfl rfl) ?_
                                  refine Eq.trans (jr_s (pc2 := 19) (lv2 := [(0, .ref 117), (1, .int 9)]) (st2 := [.int 9, .int 18, .ref 138]) jF_267_18 rfl rfl) ?_
                                  refine Eq.trans (jr_s (pc2 := 20) (lv2 := [(0, .ref 117), (1, .int 9)]) (st2 := [.int 27, .ref 138]) jF_267_19 rfl rfl) ?_
                                  refine Eq.trans (jr_ldl (v := .long 0) jF_267_20 (by decide +kernel)) ?_
                                  exact jr_rl jF_267_21
                                refine Eq.trans (jr_s (pc2 := 6) (lv2 := [(3, .long 0), (0, .ref 117), (1, .int 9), (2, .int a2)]) (st2 := []) jF_266_5 rfl rfl) ?_
                                refine Eq.trans (jr_s (pc2 := 7) (lv2 := [(3, .long 0), (0, .ref 117), (1, .int 9), (2, .int a2)]) (st2 := [.long 0]) jF_266_6 rfl rfl) ?_
                                refine Eq.trans (jr_s (pc2 := 8) (lv2 := [(3, .long 0), (0, .ref 117), (1, .int 9), (2, .int a2)]) (st2 := [.long 0, .long 0]) jF_266_7 rfl rfl) ?_
                                refine Eq.trans (jr_s (pc2 := 9) (lv2 := [(3, .long 0), (0, .ref 117), (1, .int 9), (2, .int a2)]) (st2 := [.int 0]) jF_266_8 rfl rfl) ?_
                                refine Eq.trans (jr_if1 jF_266_9 (by decide +kernel)) ?_
                                refine Eq.trans (jr_s (pc2 := 25) (lv2 := [(3, .long 0), (0, .ref 117), (1, .int 9), (2, .int a2)]) (st2 := [.int (-1)]) jF_266_24 rfl rfl) ?_
                                exact jr_ri jF_266_25 rfl
                            · rcases j_ilt a1.toInt 11 with h_a1_11 | h_a1_11
                              · obtain rfl : a1 = 10 := Int32.toInt_inj.mp (by rw [show (10 : Int32).toInt = 10 from by decide]; omega)
                                refine ⟨60000, 60000, (-1), jh2, jh2, ?_, ?_, by decide +kernel⟩
                                · refine Eq.trans (jr_s (pc2 := 1) (lv2 := [(0, .ref 9), (1, .int 10), (2, .int a2)]) (st2 := [.ref 9]) jF_92_0 rfl rfl) ?_
                                  refine Eq.trans (jr_gf (v := .ref 20) jF_92_1 (by decide +kernel)) ?_
                                  refine Eq.trans (jr_s (pc2 := 5) (lv2 := [(0, .ref 9), (1, .int 10), (2, .int a2)]) (st2 := [.int 10, .ref 20]) jF_92_4 rfl rfl) ?_
                                  refine Eq.trans (jr_s (pc2 := 6) (lv2 := [(0, .ref 9), (1, .int 10), (2, .int a2)]) (st2 := [.int a2, .int 10, .ref 20]) jF_92_5 rfl rfl) ?_
                                  refine Eq.trans (jr_cV (a := 20) (as := [.int 10, .int a2]) (rest := []) (v := some (.int (-1))) (hp2 := jh2) (fr2 := 499) (lo2 := 19978) jF_92_6 (by decide +kernel) rfl (show j_cnd 500 20000 499 19978 3 _ _ = true from rfl) ?_) ?_
                                  · refine Eq.trans (jr_s (pc2 := 1) (lv2 := [(0, .ref 20), (1, .int 10), (2, .int a2)]) (st2 := [.int 10]) jF_93_0 rfl rfl) ?_
                                    refine Eq.trans (jr_if0 jF_93_1 (by decide +kernel)) ?_
                                    refine Eq.trans (jr_s (pc2 := 5) (lv2 := [(0, .ref 20), (1, .int 10), (2, .int a2)]) (st2 := [.int 10]) jF_93_4 rfl rfl) ?_
                                    refine Eq.trans (jr_s (pc2 := 6) (lv2 := [(0, .ref 20), (1, .int 10), (2, .int a2)]) (st2 := [.ref 20, .int 10]) jF_93_5 rfl rfl) ?_
                                    refine Eq.trans (jr_gf (v := .ref 21) jF_93_6 (by decide +kernel)) ?_
                                    refine Eq.trans (jr_al (v := 25) jF_93_9 (by decide +kernel)) ?_
                                    refine Eq.trans (jr_ic0 jF_93_10 (by decide +kernel)) ?_
                                    refine Eq.trans (jr_s (pc2 := 14) (lv2 := [(0, .ref 20), (1, .int 10), (2, .int a2)]) (st2 := [.int a2]) jF_93_13 rfl rfl) ?_
                                    refine Eq.trans (jr_if0 jF_93_14 (jk_lt_ge (show (0 : Int32).toInt ≤ (a2 : Int32).toInt by rw [show (0 : Int32).toInt = 0 from by decide]; omega))) ?_
                                    refine Eq.trans (jr_s (pc2 := 18) (lv2 := [(0, .ref 20), (1, .int 10), (2, .int a2)]) (st2 := [.int a2]) jF_93_17 rfl rfl) ?_
                                    refine Eq.trans (jr_s (pc2 := 20) (lv2 := [(0, .ref 20), (1, .int 10), (2, .int a2)]) (st2 := [.int 6, .int a2]) jF_93_18 rfl rfl) ?_
                                    refine Eq.trans (jr_ic0 jF_93_20 (jk_ge_lt (show (a2 : Int32).toInt < (6 : Int32).toInt by rw [show (6 : Int32).toInt = 6 from by decide]; omega))) ?_
                                    refine Eq.trans (jr_s (pc2 := 24) (lv2 := [(0, .ref 20), (1, .int 10), (2, .int a2)]) (st2 := [.ref 20]) jF_93_23 rfl rfl) ?_
                                    refine Eq.trans (jr_gf (v := .ref 21) jF_93_24 (by decide +kernel)) ?_
                                    refine Eq.trans (jr_s (pc2 := 28) (lv2 := [(0, .ref 20), (1, .int 10), (2, .int a2)]) (st2 := [.int 10, .ref 21]) jF_93_27 rfl rfl) ?_
                                    refine Eq.trans (jr_ldi (v := .int 0) jF_93_28 (by decide +kernel)) ?_
                                    refine Eq.trans (jr_if0 jF_93_29 (by decide +kernel)) ?_
                                    refine Eq.trans (jr_s (pc2 := 33) (lv2 := [(0, .ref 20), (1, .int 10), (2, .int a2)]) (st2 := [.int (-1)]) jF_93_32 rfl rfl) ?_
                                    exact jr_ri jF_93_33 rfl
                                  exact jr_ri jF_92_9 rfl
                                · refine Eq.trans (jr_s (pc2 := 1) (lv2 := [(0, .ref 117), (1, .int 10), (2, .int a2)]) (st2 := [.ref 117]) jF_266_0 rfl rfl) ?_
                                  refine Eq.trans (jr_s (pc2 := 2) (lv2 := [(0, .ref 117), (1, .int 10), (2, .int a2)]) (st2 := [.int 10, .ref 117]) jF_266_1 rfl rfl) ?_
                                  refine Eq.trans (jr_cV (a := 117) (as := [.int 10]) (rest := []) (v := some (.long 0)) (hp2 := jh2) (fr2 := 499) (lo2 := 19979) jF_266_2 (by decide +kernel) rfl (show j_cnd 500 20000 499 19979 2 _ _ = true from rfl) ?_) ?_
                                  · refine Eq.trans (jr_s (pc2 := 1) (lv2 := [(0, .ref 117), (1, .int 10)]) (st2 := [.int 10]) jF_267_0 rfl rfl) ?_
                                    refine Eq.trans (jr_s (pc2 := 2) (lv2 := [(0, .ref 117), (1, .int 10)]) (st2 := [.long 10]) jF_267_1 rfl rfl) ?_
                                    refine Eq.trans (jr_s (pc2 := 3) (lv2 := [(0, .ref 117), (1, .int 10)]) (st2 := [.long 0, .long 10]) jF_267_2 rfl rfl) ?_
                                    refine Eq.trans (jr_s (pc2 := 6) (lv2 := [(0, .ref 117), (1, .int 10)]) (st2 := [.long 17, .long 0, .long 10]) jF_267_3 rfl rfl) ?_
                                    refine Eq.trans (jr_cS (as := [.long 10, .long 0, .long 17]) (rest := []) (v := some (.int 1)) (hp2 := jh2) (fr2 := 498) (lo2 := 19954) jF_267_6 rfl (show j_cnd 499 19979 498 19954 6 _ _ = true from rfl) ?_) ?_
                                    · refine Eq.trans (jr_s (pc2 := 1) (lv2 := [(0, .long 10), (2, .long 0), (4, .long 17)]) (st2 := [.long 10]) jF_232_0 rfl rfl) ?_
                                      refine Eq.trans (jr_s (pc2 := 2) (lv2 := [(0, .long 10), (2, .long 0), (4, .long 17)]) (st2 := [.long 0, .long 10]) jF_232_1 rfl rfl) ?_
                                      refine Eq.trans (jr_s (pc2 := 3) (lv2 := [(0, .long 10), (2, .long 0), (4, .long 17)]) (st2 := [.int 1]) jF_232_2 rfl rfl) ?_
                                      refine Eq.trans (jr_if0 jF_232_3 (by decide +kernel)) ?_
                                      refine Eq.trans (jr_s (pc2 := 7) (lv2 := [(0, .long 10), (2, .long 0), (4, .long 17)]) (st2 := [.long 10]) jF_232_6 rfl rfl) ?_
                                      refine Eq.trans (jr_s (pc2 := 9) (lv2 := [(0, .long 10), (2, .long 0), (4, .long 17)]) (st2 := [.long 17, .long 10]) jF_232_7 rfl rfl) ?_
                                      refine Eq.trans (jr_s (pc2 := 10) (lv2 := [(0, .long 10), (2, .long 0), (4, .long 17)]) (st2 := [.int (-1)]) jF_232_9 rfl rfl) ?_
                                      refine Eq.trans (jr_if0 jF_232_10 (by decide +kernel)) ?_
                                      refine Eq.trans (jr_s (pc2 := 14) (lv2 := [(0, .long 10), (2, .long 0), (4, .long 17)]) (st2 := [.int 1]) jF_232_13 rfl rfl) ?_
                                      refine Eq.trans (jr_s (pc2 := 18) (lv2 := [(0, .long 10), (2, .long 0), (4, .long 17)]) (st2 := [.int 1]) jF_232_14 rfl rfl) ?_
                                      exact jr_ri jF_232_18 rfl
                                    refine Eq.trans (jr_if0 jF_267_9 (by decide +kernel)) ?_
                                    refine Eq.trans (jr_s (pc2 := 13) (lv2 := [(0, .ref 117), (1, .int 10)]) (st2 := [.ref 117]) jF_267_12 rfl rfl) ?_
                                    refine Eq.trans (jr_gf (v := .ref 138) jF_267_13 (by decide +kernel)) ?_
                                    refine Eq.trans (jr_s (pc2 := 18) (lv2 := [(0, .ref 117), (1, .int 10)]) (st2 := [.int 18, .ref 138]) jF_267_16 rfl rfl) ?_
                                    refine Eq.trans (jr_s (pc2 := 19) (lv2 := [(0, .ref 117), (1, .int 10)]) (st2 := [.int 10, .int 18, .ref 138]) jF_267_18 rfl rfl) ?_
                                    refine Eq.trans (jr_s (pc2 := 20) (lv2 := [(0, .ref 117), (1, .int 10)]) (st2 := [.int 28, .ref 138]) jF_267_19 rfl rfl) ?_
                                    refine Eq.trans (jr_ldl (v := .long 0) jF_267_20 (by decide +kernel)) ?_
                                    exact jr_rl jF_267_21
                                  refine Eq.trans (jr_s (pc2 := 6) (lv2 := [(3, .long 0), (0, .ref 117), (1, .int 10), (2, .int a2)]) (st2 := []) jF_266_5 rfl rfl) ?_
                                  refine Eq.trans (jr_s (pc2 := 7) (lv2 := [(3, .long 0), (0, .ref 117), (1, .int 10), (2, .int a2)]) (st2 := [.long 0]) jF_266_6 rfl rfl) ?_
                                  refine Eq.trans (jr_s (pc2 := 8) (lv2 := [(3, .long 0), (0, .ref 117), (1, .int 10), (2, .int a2)]) (st2 := [.long 0, .long 0]) jF_266_7 rfl rfl) ?_
                                  refine Eq.trans (jr_s (pc2 := 9) (lv2 := [(3, .long 0), (0, .ref 117), (1, .int 10), (2, .int a2)]) (st2 := [.int 0]) jF_266_8 rfl rfl) ?_
                                  refine Eq.trans (jr_if1 jF_266_9 (by decide +kernel)) ?_
                                  refine Eq.trans (jr_s (pc2 := 25) (lv2 := [(3, .long 0), (0, .ref 117), (1, .int 10), (2, .int a2)]) (st2 := [.int (-1)]) jF_266_24 rfl rfl) ?_
                                  exact jr_ri jF_266_25 rfl
                              · rcases j_ilt a1.toInt 12 with h_a1_12 | h_a1_12
                                · obtain rfl : a1 = 11 := Int32.toInt_inj.mp (by rw [show (11 : Int32).toInt = 11 from by decide]; omega)
                                  refine ⟨60000, 60000, (-1), jh2, jh2, ?_, ?_, by decide +kernel⟩
                                  · refine Eq.trans (jr_s (pc2 := 1) (lv2 := [(0, .ref 9), (1, .int 11), (2, .int a2)]) (st2 := [.ref 9]) jF_92_0 rfl rfl) ?_
                                    refine Eq.trans (jr_gf (v := .ref 20) jF_92_1 (by decide +kernel)) ?_
                                    refine Eq.trans (jr_s (pc2 := 5) (lv2 := [(0, .ref 9), (1, .int 11), (2, .int a2)]) (st2 := [.int 11, .ref 20]) jF_92_4 rfl rfl) ?_
                                    refine Eq.trans (jr_s (pc2 := 6) (lv2 := [(0, .ref 9), (1, .int 11), (2, .int a2)]) (st2 := [.int a2, .int 11, .ref 20]) jF_92_5 rfl rfl) ?_
                                    refine Eq.trans (jr_cV (a := 20) (as := [.int 11, .int a2]) (rest := []) (v := some (.int (-1))) (hp2 := jh2) (fr2 := 499) (lo2 := 19978) jF_92_6 (by decide +kernel) rfl (show j_cnd 500 20000 499 19978 3 _ _ = true from rfl) ?_) ?_
                                    · refine Eq.trans (jr_s (pc2 := 1) (lv2 := [(0, .ref 20), (1, .int 11), (2, .int a2)]) (st2 := [.int 11]) jF_93_0 rfl rfl) ?_
                                      refine Eq.trans (jr_if0 jF_93_1 (by decide +kernel)) ?_
                                      refine Eq.trans (jr_s (pc2 := 5) (lv2 := [(0, .ref 20), (1, .int 11), (2, .int a2)]) (st2 := [.int 11]) jF_93_4 rfl rfl) ?_
                                      refine Eq.trans (jr_s (pc2 := 6) (lv2 := [(0, .ref 20), (1, .int 11), (2, .int a2)]) (st2 := [.ref 20, .int 11]) jF_93_5 rfl rfl) ?_
                                      refine Eq.trans (jr_gf (v := .ref 21) jF_93_6 (by decide +kernel)) ?_
                                      refine Eq.trans (jr_al (v := 25) jF_93_9 (by decide +kernel)) ?_
                                      refine Eq.trans (jr_ic0 jF_93_10 (by decide +kernel)) ?_
                                      refine Eq.trans (jr_s (pc2 := 14) (lv2 := [(0, .ref 20), (1, .int 11), (2, .int a2)]) (st2 := [.int a2]) jF_93_13 rfl rfl) ?_
                                      refine Eq.trans (jr_if0 jF_93_14 (jk_lt_ge (show (0 : Int32).toInt ≤ (a2 : Int32).toInt by rw [show (0 : Int32).toInt = 0 from by decide]; omega))) ?_
                                      refine Eq.trans (jr_s (pc2 := 18) (lv2 := [(0, .ref 20), (1, .int 11), (2, .int a2)]) (st2 := [.int a2]) jF_93_17 rfl rfl) ?_
                                      refine Eq.trans (jr_s (pc2 := 20) (lv2 := [(0, .ref 20), (1, .int 11), (2, .int a2)]) (st2 := [.int 6, .int a2]) jF_93_18 rfl rfl) ?_
                                      refine Eq.trans (jr_ic0 jF_93_20 (jk_ge_lt (show (a2 : Int32).toInt < (6 : Int32).toInt by rw [show (6 : Int32).toInt = 6 from by decide]; omega))) ?_
                                      refine Eq.trans (jr_s (pc2 := 24) (lv2 := [(0, .ref 20), (1, .int 11), (2, .int a2)]) (st2 := [.ref 20]) jF_93_23 rfl rfl) ?_
                                      refine Eq.trans (jr_gf (v := .ref 21) jF_93_24 (by decide +kernel)) ?_
                                      refine Eq.trans (jr_s (pc2 := 28) (lv2 := [(0, .ref 20), (1, .int 11), (2, .int a2)]) (st2 := [.int 11, .ref 21]) jF_93_27 rfl rfl) ?_
                                      refine Eq.trans (jr_ldi (v := .int 0) jF_93_28 (by decide +kernel)) ?_
                                      refine Eq.trans (jr_if0 jF_93_29 (by decide +kernel)) ?_
                                      refine Eq.trans (jr_s (pc2 := 33) (lv2 := [(0, .ref 20), (1, .int 11), (2, .int a2)]) (st2 := [.int (-1)]) jF_93_32 rfl rfl) ?_
                                      exact jr_ri jF_93_33 rfl
                                    exact jr_ri jF_92_9 rfl
                                  · refine Eq.trans (jr_s (pc2 := 1) (lv2 := [(0, .ref 117), (1, .int 11), (2, .int a2)]) (st2 := [.ref 117]) jF_266_0 rfl rfl) ?_
                                    refine Eq.trans (jr_s (pc2 := 2) (lv2 := [(0, .ref 117), (1, .int 11), (2, .int a2)]) (st2 := [.int 11, .ref 117]) jF_266_1 rfl rfl) ?_
                                    refine Eq.trans (jr_cV (a := 117) (as := [.int 11]) (rest := []) (v := some (.long 0)) (hp2 := jh2) (fr2 := 499) (lo2 := 19979) jF_266_2 (by decide +kernel) rfl (show j_cnd 500 20000 499 19979 2 _ _ = true from rfl) ?_) ?_
                                    · refine Eq.trans (jr_s (pc2 := 1) (lv2 := [(0, .ref 117), (1, .int 11)]) (st2 := [.int 11]) jF_267_0 rfl rfl) ?_
                                      refine Eq.trans (jr_s (pc2 := 2) (lv2 := [(0, .ref 117), (1, .int 11)]) (st2 := [.long 11]) jF_267_1 rfl rfl) ?_
                                      refine Eq.trans (jr_s (pc2 := 3) (lv2 := [(0, .ref 117), (1, .int 11)]) (st2 := [.long 0, .long 11]) jF_267_2 rfl rfl) ?_
                                      refine Eq.trans (jr_s (pc2 := 6) (lv2 := [(0, .ref 117), (1, .int 11)]) (st2 := [.long 17, .long 0, .long 11]) jF_267_3 rfl rfl) ?_
                                      refine Eq.trans (jr_cS (as := [.long 11, .long 0, .long 17]) (rest := []) (v := some (.int 1)) (hp2 := jh2) (fr2 := 498) (lo2 := 19954) jF_267_6 rfl (show j_cnd 499 19979 498 19954 6 _ _ = true from rfl) ?_) ?_
                                      · refine Eq.trans (jr_s (pc2 := 1) (lv2 := [(0, .long 11), (2, .long 0), (4, .long 17)]) (st2 := [.long 11]) jF_232_0 rfl rfl) ?_
                                        refine Eq.trans (jr_s (pc2 := 2) (lv2 := [(0, .long 11), (2, .long 0), (4, .long 17)]) (st2 := [.long 0, .long 11]) jF_232_1 rfl rfl) ?_
                                        refine Eq.trans (jr_s (pc2 := 3) (lv2 := [(0, .long 11), (2, .long 0), (4, .long 17)]) (st2 := [.int 1]) jF_232_2 rfl rfl) ?_
                                        refine Eq.trans (jr_if0 jF_232_3 (by decide +kernel)) ?_
                                        refine Eq.trans (jr_s (pc2 := 7) (lv2 := [(0, .long 11), (2, .long 0), (4, .long 17)]) (st2 := [.long 11]) jF_232_6 rfl rfl) ?_
                                        refine Eq.trans (jr_s (pc2 := 9) (lv2 := [(0, .long 11), (2, .long 0), (4, .long 17)]) (st2 := [.long 17, .long 11]) jF_232_7 rfl rfl) ?_
                                        refine Eq.trans (jr_s (pc2 := 10) (lv2 := [(0, .long 11), (2, .long 0), (4, .long 17)]) (st2 := [.int (-1)]) jF_232_9 rfl rfl) ?_
                                        refine Eq.trans (jr_if0 jF_232_10 (by decide +kernel)) ?_
                                        refine Eq.trans (jr_s (pc2 := 14) (lv2 := [(0, .long 11), (2, .long 0), (4, .long 17)]) (st2 := [.int 1]) jF_232_13 rfl rfl) ?_
                                        refine Eq.trans (jr_s (pc2 := 18) (lv2 := [(0, .long 11), (2, .long 0), (4, .long 17)]) (st2 := [.int 1]) jF_232_14 rfl rfl) ?_
                                        exact jr_ri jF_232_18 rfl
                                      refine Eq.trans (jr_if0 jF_267_9 (by decide +kernel)) ?_
                                      refine Eq.trans (jr_s (pc2 := 13) (lv2 := [(0, .ref 117), (1, .int 11)]) (st2 := [.ref 117]) jF_267_12 rfl rfl) ?_
                                      refine Eq.trans (jr_gf (v := .ref 138) jF_267_13 (by decide +kernel)) ?_
                                      refine Eq.trans (jr_s (pc2 := 18) (lv2 := [(0, .ref 117), (1, .int 11)]) (st2 := [.int 18, .ref 138]) jF_267_16 rfl rfl) ?_
                                      refine Eq.trans (jr_s (pc2 := 19) (lv2 := [(0, .ref 117), (1, .int 11)]) (st2 := [.int 11, .int 18, .ref 138]) jF_267_18 rfl rfl) ?_
                                      refine Eq.trans (jr_s (pc2 := 20) (lv2 := [(0, .ref 117), (1, .int 11)]) (st2 := [.int 29, .ref 138]) jF_267_19 rfl rfl) ?_
                                      refine Eq.trans (jr_ldl (v := .long 0) jF_267_20 (by decide +kernel)) ?_
                                      exact jr_rl jF_267_21
                                    refine Eq.trans (jr_s (pc2 := 6) (lv2 := [(3, .long 0), (0, .ref 117), (1, .int 11), (2, .int a2)]) (st2 := []) jF_266_5 rfl rfl) ?_
                                    refine Eq.trans (jr_s (pc2 := 7) (lv2 := [(3, .long 0), (0, .ref 117), (1, .int 11), (2, .int a2)]) (st2 := [.long 0]) jF_266_6 rfl rfl) ?_
                                    refine Eq.trans (jr_s (pc2 := 8) (lv2 := [(3, .long 0), (0, .ref 117), (1, .int 11), (2, .int a2)]) (st2 := [.long 0, .long 0]) jF_266_7 rfl rfl) ?_
                                    refine Eq.trans (jr_s (pc2 := 9) (lv2 := [(3, .long 0), (0, .ref 117), (1, .int 11), (2, .int a2)]) (st2 := [.int 0]) jF_266_8 rfl rfl) ?_
                                    refine Eq.trans (jr_if1 jF_266_9 (by decide +kernel)) ?_
                                    refine Eq.trans (jr_s (pc2 := 25) (lv2 := [(3, .long 0), (0, .ref 117), (1, .int 11), (2, .int a2)]) (st2 := [.int (-1)]) jF_266_24 rfl rfl) ?_
                                    exact jr_ri jF_266_25 rfl
                                · rcases j_ilt a1.toInt 13 with h_a1_13 | h_a1_13
                                  · obtain rfl : a1 = 12 := Int32.toInt_inj.mp (by rw [show (12 : Int32).toInt = 12 from by decide]; omega)
                                    refine ⟨60000, 60000, (-1), jh2, jh2, ?_, ?_, by decide +kernel⟩
                                    · refine Eq.trans (jr_s (pc2 := 1) (lv2 := [(0, .ref 9), (1, .int 12), (2, .int a2)]) (st2 := [.ref 9]) jF_92_0 rfl rfl) ?_
                                      refine Eq.trans (jr_gf (v := .ref 20) jF_92_1 (by decide +kernel)) ?_
                                      refine Eq.trans (jr_s (pc2 := 5) (lv2 := [(0, .ref 9), (1, .int 12), (2, .int a2)]) (st2 := [.int 12, .ref 20]) jF_92_4 rfl rfl) ?_
                                      refine Eq.trans (jr_s (pc2 := 6) (lv2 := [(0, .ref 9), (1, .int 12), (2, .int a2)]) (st2 := [.int a2, .int 12, .ref 20]) jF_92_5 rfl rfl) ?_
                                      refine Eq.trans (jr_cV (a := 20) (as := [.int 12, .int a2]) (rest := []) (v := some (.int (-1))) (hp2 := jh2) (fr2 := 499) (lo2 := 19978) jF_92_6 (by decide +kernel) rfl (show j_cnd 500 20000 499 19978 3 _ _ = true from rfl) ?_) ?_
                                      · refine Eq.trans (jr_s (pc2 := 1) (lv2 := [(0, .ref 20), (1, .int 12), (2, .int a2)]) (st2 := [.int 12]) jF_93_0 rfl rfl) ?_
                                        refine Eq.trans (jr_if0 jF_93_1 (by decide +kernel)) ?_
                                        refine Eq.trans (jr_s (pc2 := 5) (lv2 := [(0, .ref 20), (1, .int 12), (2, .int a2)]) (st2 := [.int 12]) jF_93_4 rfl rfl) ?_
                                        refine Eq.trans (jr_s (pc2 := 6) (lv2 := [(0, .ref 20), (1, .int 12), (2, .int a2)]) (st2 := [.ref 20, .int 12]) jF_93_5 rfl rfl) ?_
                                        refine Eq.trans (jr_gf (v := .ref 21) jF_93_6 (by decide +kernel)) ?_
                                        refine Eq.trans (jr_al (v := 25) jF_93_9 (by decide +kernel)) ?_
                                        refine Eq.trans (jr_ic0 jF_93_10 (by decide +kernel)) ?_
                                        refine Eq.trans (jr_s (pc2 := 14) (lv2 := [(0, .ref 20), (1, .int 12), (2, .int a2)]) (st2 := [.int a2]) jF_93_13 rfl rfl) ?_
                                        refine Eq.trans (jr_if0 jF_93_14 (jk_lt_ge (show (0 : Int32).toInt ≤ (a2 : Int32).toInt by rw [show (0 : Int32).toInt = 0 from by decide]; omega))) ?_
                                        refine Eq.trans (jr_s (pc2 := 18) (lv2 := [(0, .ref 20), (1, .int 12), (2, .int a2)]) (st2 := [.int a2]) jF_93_17 rfl rfl) ?_
                                        refine Eq.trans (jr_s (pc2 := 20) (lv2 := [(0, .ref 20), (1, .int 12), (2, .int a2)]) (st2 := [.int 6, .int a2]) jF_93_18 rfl rfl) ?_
                                        refine Eq.trans (jr_ic0 jF_93_20 (jk_ge_lt (show (a2 : Int32).toInt < (6 : Int32).toInt by rw [show (6 : Int32).toInt = 6 from by decide]; omega))) ?_
                                        refine Eq.trans (jr_s (pc2 := 24) (lv2 := [(0, .ref 20), (1, .int 12), (2, .int a2)]) (st2 := [.ref 20]) jF_93_23 rfl rfl) ?_
                                        refine Eq.trans (jr_gf (v := .ref 21) jF_93_24 (by decide +kernel)) ?_
                                        refine Eq.trans (jr_s (pc2 := 28) (lv2 := [(0, .ref 20), (1, .int 12), (2, .int a2)]) (st2 := [.int 12, .ref 21]) jF_93_27 rfl rfl) ?_
                                        refine Eq.trans (jr_ldi (v := .int 0) jF_93_28 (by decide +kernel)) ?_
                                        refine Eq.trans (jr_if0 jF_93_29 (by decide +kernel)) ?_
                                        refine Eq.trans (jr_s (pc2 := 33) (lv2 := [(0, .ref 20), (1, .int 12), (2, .int a2)]) (st2 := [.int (-1)]) jF_93_32 rfl rfl) ?_
                                        exact jr_ri jF_93_33 rfl
                                      exact jr_ri jF_92_9 rfl
                                    · refine Eq.trans (jr_s (pc2 := 1) (lv2 := [(0, .ref 117), (1, .int 12), (2, .int a2)]) (st2 := [.ref 117]) jF_266_0 rfl rfl) ?_
                                      refine Eq.trans (jr_s (pc2 := 2) (lv2 := [(0, .ref 117), (1, .int 12), (2, .int a2)]) (st2 := [.int 12, .ref 117]) jF_266_1 rfl rfl) ?_
                                      refine Eq.trans (jr_cV (a := 117) (as := [.int 12]) (rest := []) (v := some (.long 0)) (hp2 := jh2) (fr2 := 499) (lo2 := 19979) jF_266_2 (by decide +kernel) rfl (show j_cnd 500 20000 499 19979 2 _ _ = true from rfl) ?_) ?_
                                      · refine Eq.trans (jr_s (pc2 := 1) (lv2 := [(0, .ref 117), (1, .int 12)]) (st2 := [.int 12]) jF_267_0 rfl rfl) ?_
                                        refine Eq.trans (jr_s (pc2 := 2) (lv2 := [(0, .ref 117), (1, .int 12)]) (st2 := [.long 12]) jF_267_1 rfl rfl) ?_
                                        refine Eq.trans (jr_s (pc2 := 3) (lv2 := [(0, .ref 117), (1, .int 12)]) (st2 := [.long 0, .long 12]) jF_267_2 rfl rfl) ?_
                                        refine Eq.trans (jr_s (pc2 := 6) (lv2 := [(0, .ref 117), (1, .int 12)]) (st2 := [.long 17, .long 0, .long 12]) jF_267_3 rfl rfl) ?_
                                        refine Eq.trans (jr_cS (as := [.long 12, .long 0, .long 17]) (rest := []) (v := some (.int 1)) (hp2 := jh2) (fr2 := 498) (lo2 := 19954) jF_267_6 rfl (show j_cnd 499 19979 498 19954 6 _ _ = true from rfl) ?_) ?_
                                        · refine Eq.trans (jr_s (pc2 := 1) (lv2 := [(0, .long 12), (2, .long 0), (4, .long 17)]) (st2 := [.long 12]) jF_232_0 rfl rfl) ?_
                                          refine Eq.trans (jr_s (pc2 := 2) (lv2 := [(0, .long 12), (2, .long 0), (4, .long 17)]) (st2 := [.long 0, .long 12]) jF_232_1 rfl rfl) ?_
                                          refine Eq.trans (jr_s (pc2 := 3) (lv2 := [(0, .long 12), (2, .long 0), (4, .long 17)]) (st2 := [.int 1]) jF_232_2 rfl rfl) ?_
                                          refine Eq.trans (jr_if0 jF_232_3 (by decide +kernel)) ?_
                                          refine Eq.trans (jr_s (pc2 := 7) (lv2 := [(0, .long 12), (2, .long 0), (4, .long 17)]) (st2 := [.long 12]) jF_232_6 rfl rfl) ?_
                                          refine Eq.trans (jr_s (pc2 := 9) (lv2 := [(0, .long 12), (2, .long 0), (4, .long 17)]) (st2 := [.long 17, .long 12]) jF_232_7 rfl rfl) ?_
                                          refine Eq.trans (jr_s (pc2 := 10) (lv2 := [(0, .long 12), (2, .long 0), (4, .long 17)]) (st2 := [.int (-1)]) jF_232_9 rfl rfl) ?_
                                          refine Eq.trans (jr_if0 jF_232_10 (by decide +kernel)) ?_
                                          refine Eq.trans (jr_s (pc2 := 14) (lv2 := [(0, .long 12), (2, .long 0), (4, .long 17)]) (st2 := [.int 1]) jF_232_13 rfl rfl) ?_
                                          refine Eq.trans (jr_s (pc2 := 18) (lv2 := [(0, .long 12), (2, .long 0), (4, .long 17)]) (st2 := [.int 1]) jF_232_14 rfl rfl) ?_
                                          exact jr_ri jF_232_18 rfl
                                        refine Eq.trans (jr_if0 jF_267_9 (by decide +kernel)) ?_
                                        refine Eq.trans (jr_s (pc2 := 13) (lv2 := [(0, .ref 117), (1, .int 12)]) (st2 := [.ref 117]) jF_267_12 rfl rfl) ?_
                                        refine Eq.trans (jr_gf (v := .ref 138) jF_267_13 (by decide +kernel)) ?_
                                        refine Eq.trans (jr_s (pc2 := 18) (lv2 := [(0, .ref 117), (1, .int 12)]) (st2 := [.int 18, .ref 138]) jF_267_16 rfl rfl) ?_
                                        refine Eq.trans (jr_s (pc2 := 19) (lv2 := [(0, .ref 117), (1, .int 12)]) (st2 := [.int 12, .int 18, .ref 138]) jF_267_18 rfl rfl) ?_
                                        refine Eq.trans (jr_s (pc2 := 20) (lv2 := [(0, .ref 117), (1, .int 12)]) (st2 := [.int 30, .ref 138]) jF_267_19 rfl rfl) ?_
                                        refine Eq.trans (jr_ldl (v := .long 0) jF_267_20 (by decide +kernel)) ?_
                                        exact jr_rl jF_267_21
                                      refine Eq.trans (jr_s (pc2 := 6) (lv2 := [(3, .long 0), (0, .ref 117), (1, .int 12), (2, .int a2)]) (st2 := []) jF_266_5 rfl rfl) ?_
                                      refine Eq.trans (jr_s (pc2 := 7) (lv2 := [(3, .long 0), (0, .ref 117), (1, .int 12), (2, .int a2)]) (st2 := [.long 0]) jF_266_6 rfl rfl) ?_
                                      refine Eq.trans (jr_s (pc2 := 8) (lv2 := [(3, .long 0), (0, .ref 117), (1, .int 12), (2, .int a2)]) (st2 := [.long 0, .long 0]) jF_266_7 rfl rfl) ?_
                                      refine Eq.trans (jr_s (pc2 := 9) (lv2 := [(3, .long 0), (0, .ref 117), (1, .int 12), (2, .int a2)]) (st2 := [.int 0]) jF_266_8 rfl rfl) ?_
                                      refine Eq.trans (jr_if1 jF_266_9 (by decide +kernel)) ?_
                                      refine Eq.trans (jr_s (pc2 := 25) (lv2 := [(3, .long 0), (0, .ref 117), (1, .int 12), (2, .int a2)]) (st2 := [.int (-1)]) jF_266_24 rfl rfl) ?_
                                      exact jr_ri jF_266_25 rfl
                                  · rcases j_ilt a1.toInt 14 with h_a1_14 | h_a1_14
                                    · obtain rfl : a1 = 13 := Int32.toInt_inj.mp (by rw [show (13 : Int32).toInt = 13 from by decide]; omega)
                                      refine ⟨60000, 60000, (-1), jh2, jh2, ?_, ?_, by decide +kernel⟩
                                      · refine Eq.trans (jr_s (pc2 := 1) (lv2 := [(0, .ref 9), (1, .int 13), (2, .int a2)]) (st2 := [.ref 9]) jF_92_0 rfl rfl) ?_
                                        refine Eq.trans (jr_gf (v := .ref 20) jF_92_1 (by decide +kernel)) ?_
                                        refine Eq.trans (jr_s (pc2 := 5) (lv2 := [(0, .ref 9), (1, .int 13), (2, .int a2)]) (st2 := [.int 13, .ref 20]) jF_92_4 rfl rfl) ?_
                                        refine Eq.trans (jr_s (pc2 := 6) (lv2 := [(0, .ref 9), (1, .int 13), (2, .int a2)]) (st2 := [.int a2, .int 13, .ref 20]) jF_92_5 rfl rfl) ?_
                                        refine Eq.trans (jr_cV (a := 20) (as := [.int 13, .int a2]) (rest := []) (v := some (.int (-1))) (hp2 := jh2) (fr2 := 499) (lo2 := 19978) jF_92_6 (by decide +kernel) rfl (show j_cnd 500 20000 499 19978 3 _ _ = true from rfl) ?_) ?_
                                        · refine Eq.trans (jr_s (pc2 := 1) (lv2 := [(0, .ref 20), (1, .int 13), (2, .int a2)]) (st2 := [.int 13]) jF_93_0 rfl rfl) ?_
                                          refine Eq.trans (jr_if0 jF_93_1 (by decide +kernel)) ?_
                                          refine Eq.trans (jr_s (pc2 := 5) (lv2 := [(0, .ref 20), (1, .int 13), (2, .int a2)]) (st2 := [.int 13]) jF_93_4 rfl rfl) ?_
                                          refine Eq.trans (jr_s (pc2 := 6) (lv2 := [(0, .ref 20), (1, .int 13), (2, .int a2)]) (st2 := [.ref 20, .int 13]) jF_93_5 rfl rfl) ?_
                                          refine Eq.trans (jr_gf (v := .ref 21) jF_93_6 (by decide +kernel)) ?_
                                          refine Eq.trans (jr_al (v := 25) jF_93_9 (by decide +kernel)) ?_
                                          refine Eq.trans (jr_ic0 jF_93_10 (by decide +kernel)) ?_
                                          refine Eq.trans (jr_s (pc2 := 14) (lv2 := [(0, .ref 20), (1, .int 13), (2, .int a2)]) (st2 := [.int a2]) jF_93_13 rfl rfl) ?_
                                          refine Eq.trans (jr_if0 jF_93_14 (jk_lt_ge (show (0 : Int32).toInt ≤ (a2 : Int32).toInt by rw [show (0 : Int32).toInt = 0 from by decide]; omega))) ?_
                                          refine Eq.trans (jr_s (pc2 := 18) (lv2 := [(0, .ref 20), (1, .int 13), (2, .int a2)]) (st2 := [.int a2]) jF_93_17 rfl rfl) ?_
                                          refine Eq.trans (jr_s (pc2 := 20) (lv2 := [(0, .ref 20), (1, .int 13), (2, .int a2)]) (st2 := [.int 6, .int a2]) jF_93_18 rfl rfl) ?_
                                          refine Eq.trans (jr_ic0 jF_93_20 (jk_ge_lt (show (a2 : Int32).toInt < (6 : Int32).toInt by rw [show (6 : Int32).toInt = 6 from by decide]; omega))) ?_
                                          refine Eq.trans (jr_s (pc2 := 24) (lv2 := [(0, .ref 20), (1, .int 13), (2, .int a2)]) (st2 := [.ref 20]) jF_93_23 rfl rfl) ?_
                                          refine Eq.trans (jr_gf (v := .ref 21) jF_93_24 (by decide +kernel)) ?_
                                          refine Eq.trans (jr_s (pc2 := 28) (lv2 := [(0, .ref 20), (1, .int 13), (2, .int a2)]) (st2 := [.int 13, .ref 21]) jF_93_27 rfl rfl) ?_
                                          refine Eq.trans (jr_ldi (v := .int 0) jF_93_28 (by decide +kernel)) ?_
                                          refine Eq.trans (jr_if0 jF_93_29 (by decide +kernel)) ?_
                                          refine Eq.trans (jr_s (pc2 := 33) (lv2 := [(0, .ref 20), (1, .int 13), (2, .int a2)]) (st2 := [.int (-1)]) jF_93_32 rfl rfl) ?_
                                          exact jr_ri jF_93_33 rfl
                                        exact jr_ri jF_92_9 rfl
                                      · refine Eq.trans (jr_s (pc2 := 1) (lv2 := [(0, .ref 117), (1, .int 13), (2, .int a2)]) (st2 := [.ref 117]) jF_266_0 rfl rfl) ?_
                                        refine Eq.trans (jr_s (pc2 := 2) (lv2 := [(0, .ref 117), (1, .int 13), (2, .int a2)]) (st2 := [.int 13, .ref 117]) jF_266_1 rfl rfl) ?_
                                        refine Eq.trans (jr_cV (a := 117) (as := [.int 13]) (rest := []) (v := some (.long 0)) (hp2 := jh2) (fr2 := 499) (lo2 := 19979) jF_266_2 (by decide +kernel) rfl (show j_cnd 500 20000 499 19979 2 _ _ = true from rfl) ?_) ?_
                                        · refine Eq.trans (jr_s (pc2 := 1) (lv2 := [(0, .ref 117), (1, .int 13)]) (st2 := [.int 13]) jF_267_0 rfl rfl) ?_
                                          refine Eq.trans (jr_s (pc2 := 2) (lv2 := [(0, .ref 117), (1, .int 13)]) (st2 := [.long 13]) jF_267_1 rfl rfl) ?_
                                          refine Eq.trans (jr_s (pc2 := 3) (lv2 := [(0, .ref 117), (1, .int 13)]) (st2 := [.long 0, .long 13]) jF_267_2 rfl rfl) ?_
                                          refine Eq.trans (jr_s (pc2 := 6) (lv2 := [(0, .ref 117), (1, .int 13)]) (st2 := [.long 17, .long 0, .long 13]) jF_267_3 rfl rfl) ?_
                                          refine Eq.trans (jr_cS (as := [.long 13, .long 0, .long 17]) (rest := []) (v := some (.int 1)) (hp2 := jh2) (fr2 := 498) (lo2 := 19954) jF_267_6 rfl (show j_cnd 499 19979 498 19954 6 _ _ = true from rfl) ?_) ?_
                                          · refine Eq.trans (jr_s (pc2 := 1) (lv2 := [(0, .long 13), (2, .long 0), (4, .long 17)]) (st2 := [.long 13]) jF_232_0 rfl rfl) ?_
                                            refine Eq.trans (jr_s (pc2 := 2) (lv2 := [(0, .long 13), (2, .long 0), (4, .long 17)]) (st2 := [.long 0, .long 13]) jF_232_1 rfl rfl) ?_
                                            refine Eq.trans (jr_s (pc2 := 3) (lv2 := [(0, .long 13), (2, .long 0), (4, .long 17)]) (st2 := [.int 1]) jF_232_2 rfl rfl) ?_
                                            refine Eq.trans (jr_if0 jF_232_3 (by decide +kernel)) ?_
                                            refine Eq.trans (jr_s (pc2 := 7) (lv2 := [(0, .long 13), (2, .long 0), (4, .long 17)]) (st2 := [.long 13]) jF_232_6 rfl rfl) ?_
                                            refine Eq.trans (jr_s (pc2 := 9) (lv2 := [(0, .long 13), (2, .long 0), (4, .long 17)]) (st2 := [.long 17, .long 13]) jF_232_7 rfl rfl) ?_
                                            refine Eq.trans (jr_s (pc2 := 10) (lv2 := [(0, .long 13), (2, .long 0), (4, .long 17)]) (st2 := [.int (-1)]) jF_232_9 rfl rfl) ?_
                                            refine Eq.trans (jr_if0 jF_232_10 (by decide +kernel)) ?_
                                            refine Eq.trans (jr_s (pc2 := 14) (lv2 := [(0, .long 13), (2, .long 0), (4, .long 17)]) (st2 := [.int 1]) jF_232_13 rfl rfl) ?_
                                            refine Eq.trans (jr_s (pc2 := 18) (lv2 := [(0, .long 13), (2, .long 0), (4, .long 17)]) (st2 := [.int 1]) jF_232_14 rfl rfl) ?_
                                            exact jr_ri jF_232_18 rfl
                                          refine Eq.trans (jr_if0 jF_267_9 (by decide +kernel)) ?_
                                          refine Eq.trans (jr_s (pc2 := 13) (lv2 := [(0, .ref 117), (1, .int 13)]) (st2 := [.ref 117]) jF_267_12 rfl rfl) ?_
                                          refine Eq.trans (jr_gf (v := .ref 138) jF_267_13 (by decide +kernel)) ?_
                                          refine Eq.trans (jr_s (pc2 := 18) (lv2 := [(0, .ref 117), (1, .int 13)]) (st2 := [.int 18, .ref 138]) jF_267_16 rfl rfl) ?_
                                          refine Eq.trans (jr_s (pc2 := 19) (lv2 := [(0, .ref 117), (1, .int 13)]) (st2 := [.int 13, .int 18, .ref 138]) jF_267_18 rfl rfl) ?_
                                          refine Eq.trans (jr_s (pc2 := 20) (lv2 := [(0, .ref 117), (1, .int 13)]) (st2 := [.int 31, .ref 138]) jF_267_19 rfl rfl) ?_
                                          refine Eq.trans (jr_ldl (v := .long 0) jF_267_20 (by decide +kernel)) ?_
                                          exact jr_rl jF_267_21
                                        refine Eq.trans (jr_s (pc2 := 6) (lv2 := [(3, .long 0), (0, .ref 117), (1, .int 13), (2, .int a2)]) (st2 := []) jF_266_5 rfl rfl) ?_
                                        refine Eq.trans (jr_s (pc2 := 7) (lv2 := [(3, .long 0), (0, .ref 117), (1, .int 13), (2, .int a2)]) (st2 := [.long 0]) jF_266_6 rfl rfl) ?_
                                        refine Eq.trans (jr_s (pc2 := 8) (lv2 := [(3, .long 0), (0, .ref 117), (1, .int 13), (2, .int a2)]) (st2 := [.long 0, .long 0]) jF_266_7 rfl rfl) ?_
                                        refine Eq.trans (jr_s (pc2 := 9) (lv2 := [(3, .long 0), (0, .ref 117), (1, .int 13), (2, .int a2)]) (st2 := [.int 0]) jF_266_8 rfl rfl) ?_
                                        refine Eq.trans (jr_if1 jF_266_9 (by decide +kernel)) ?_
                                        refine Eq.trans (jr_s (pc2 := 25) (lv2 := [(3, .long 0), (0, .ref 117), (1, .int 13), (2, .int a2)]) (st2 := [.int (-1)]) jF_266_24 rfl rfl) ?_
                                        exact jr_ri jF_266_25 rfl
                                    · rcases j_ilt a1.toInt 15 with h_a1_15 | h_a1_15
                                      · obtain rfl : a1 = 14 := Int32.toInt_inj.mp (by rw [show (14 : Int32).toInt = 14 from by decide]; omega)
                                        refine ⟨60000, 60000, (-1), jh2, jh2, ?_, ?_, by decide +kernel⟩
                                        · refine Eq.trans (jr_s (pc2 := 1) (lv2 := [(0, .ref 9), (1, .int 14), (2, .int a2)]) (st2 := [.ref 9]) jF_92_0 rfl rfl) ?_
                                          refine Eq.trans (jr_gf (v := .ref 20) jF_92_1 (by decide +kernel)) ?_
                                          refine Eq.trans (jr_s (pc2 := 5) (lv2 := [(0, .ref 9), (1, .int 14), (2, .int a2)]) (st2 := [.int 14, .ref 20]) jF_92_4 rfl rfl) ?_
                                          refine Eq.trans (jr_s (pc2 := 6) (lv2 := [(0, .ref 9), (1, .int 14), (2, .int a2)]) (st2 := [.int a2, .int 14, .ref 20]) jF_92_5 rfl rfl) ?_
                                          refine Eq.trans (jr_cV (a := 20) (as := [.int 14, .int a2]) (rest := []) (v := some (.int (-1))) (hp2 := jh2) (fr2 := 499) (lo2 := 19978) jF_92_6 (by decide +kernel) rfl (show j_cnd 500 20000 499 19978 3 _ _ = true from rfl) ?_) ?_
                                          · refine Eq.trans (jr_s (pc2 := 1) (lv2 := [(0, .ref 20), (1, .int 14), (2, .int a2)]) (st2 := [.int 14]) jF_93_0 rfl rfl) ?_
                                            refine Eq.trans (jr_if0 jF_93_1 (by decide +kernel)) ?_
                                            refine Eq.trans (jr_s (pc2 := 5) (lv2 := [(0, .ref 20), (1, .int 14), (2, .int a2)]) (st2 := [.int 14]) jF_93_4 rfl rfl) ?_
                                            refine Eq.trans (jr_s (pc2 := 6) (lv2 := [(0, .ref 20), (1, .int 14), (2, .int a2)]) (st2 := [.ref 20, .int 14]) jF_93_5 rfl rfl) ?_
                                            refine Eq.trans (jr_gf (v := .ref 21) jF_93_6 (by decide +kernel)) ?_
                                            refine Eq.trans (jr_al (v := 25) jF_93_9 (by decide +kernel)) ?_
                                            refine Eq.trans (jr_ic0 jF_93_10 (by decide +kernel)) ?_
                                            refine Eq.trans (jr_s (pc2 := 14) (lv2 := [(0, .ref 20), (1, .int 14), (2, .int a2)]) (st2 := [.int a2]) jF_93_13 rfl rfl) ?_
                                            refine Eq.trans (jr_if0 jF_93_14 (jk_lt_ge (show (0 : Int32).toInt ≤ (a2 : Int32).toInt by rw [show (0 : Int32).toInt = 0 from by decide]; omega))) ?_
                                            refine Eq.trans (jr_s (pc2 := 18) (lv2 := [(0, .ref 20), (1, .int 14), (2, .int a2)]) (st2 := [.int a2]) jF_93_17 rfl rfl) ?_
                                            refine Eq.trans (jr_s (pc2 := 20) (lv2 := [(0, .ref 20), (1, .int 14), (2, .int a2)]) (st2 := [.int 6, .int a2]) jF_93_18 rfl rfl) ?_
                                            refine Eq.trans (jr_ic0 jF_93_20 (jk_ge_lt (show (a2 : Int32).toInt < (6 : Int32).toInt by rw [show (6 : Int32).toInt = 6 from by decide]; omega))) ?_
                                            refine Eq.trans (jr_s (pc2 := 24) (lv2 := [(0, .ref 20), (1, .int 14), (2, .int a2)]) (st2 := [.ref 20]) jF_93_23 rfl rfl) ?_
                                            refine Eq.trans (jr_gf (v := .ref 21) jF_93_24 (by decide +kernel)) ?_
                                            refine Eq.trans (jr_s (pc2 := 28) (lv2 := [(0, .ref 20), (1, .int 14), (2, .int a2)]) (st2 := [.int 14, .ref 21]) jF_93_27 rfl rfl) ?_
                                            refine Eq.trans (jr_ldi (v := .int 0) jF_93_28 (by decide +kernel)) ?_
                                            refine Eq.trans (jr_if0 jF_93_29 (by decide +kernel)) ?_
                                            refine Eq.trans (jr_s (pc2 := 33) (lv2 := [(0, .ref 20), (1, .int 14), (2, .int a2)]) (st2 := [.int (-1)]) jF_93_32 rfl rfl) ?_
                                            exact jr_ri jF_93_33 rfl
                                          exact jr_ri jF_92_9 rfl
                                        · refine Eq.trans (jr_s (pc2 := 1) (lv2 := [(0, .ref 117), (1, .int 14), (2, .int a2)]) (st2 := [.ref 117]) jF_266_0 rfl rfl) ?_
                                          refine Eq.trans (jr_s (pc2 := 2) (lv2 := [(0, .ref 117), (1, .int 14), (2, .int a2)]) (st2 := [.int 14, .ref 117]) jF_266_1 rfl rfl) ?_
                                          refine Eq.trans (jr_cV (a := 117) (as := [.int 14]) (rest := []) (v := some (.long 0)) (hp2 := jh2) (fr2 := 499) (lo2 := 19979) jF_266_2 (by decide +kernel) rfl (show j_cnd 500 20000 499 19979 2 _ _ = true from rfl) ?_) ?_
                                          · refine Eq.trans (jr_s (pc2 := 1) (lv2 := [(0, .ref 117), (1, .int 14)]) (st2 := [.int 14]) jF_267_0 rfl rfl) ?_
                                            refine Eq.trans (jr_s (pc2 := 2) (lv2 := [(0, .ref 117), (1, .int 14)]) (st2 := [.long 14]) jF_267_1 rfl rfl) ?_
                                            refine Eq.trans (jr_s (pc2 := 3) (lv2 := [(0, .ref 117), (1, .int 14)]) (st2 := [.long 0, .long 14]) jF_267_2 rfl rfl) ?_
                                            refine Eq.trans (jr_s (pc2 := 6) (lv2 := [(0, .ref 117), (1, .int 14)]) (st2 := [.long 17, .long 0, .long 14]) jF_267_3 rfl rfl) ?_
                                            refine Eq.trans (jr_cS (as := [.long 14, .long 0, .long 17]) (rest := []) (v := some (.int 1)) (hp2 := jh2) (fr2 := 498) (lo2 := 19954) jF_267_6 rfl (show j_cnd 499 19979 498 19954 6 _ _ = true from rfl) ?_) ?_
                                            · refine Eq.trans (jr_s (pc2 := 1) (lv2 := [(0, .long 14), (2, .long 0), (4, .long 17)]) (st2 := [.long 14]) jF_232_0 rfl rfl) ?_
                                              refine Eq.trans (jr_s (pc2 := 2) (lv2 := [(0, .long 14), (2, .long 0), (4, .long 17)]) (st2 := [.long 0, .long 14]) jF_232_1 rfl rfl) ?_
                                              refine Eq.trans (jr_s (pc2 := 3) (lv2 := [(0, .long 14), (2, .long 0), (4, .long 17)]) (st2 := [.int 1]) jF_232_2 rfl rfl) ?_
                                              refine Eq.trans (jr_if0 jF_232_3 (by decide +kernel)) ?_
                                              refine Eq.trans (jr_s (pc2 := 7) (lv2 := [(0, .long 14), (2, .long 0), (4, .long 17)]) (st2 := [.long 14]) jF_232_6 rfl rfl) ?_
                                              refine Eq.trans (jr_s (pc2 := 9) (lv2 := [(0, .long 14), (2, .long 0), (4, .long 17)]) (st2 := [.long 17, .long 14]) jF_232_7 rfl rfl) ?_
                                              refine Eq.trans (jr_s (pc2 := 10) (lv2 := [(0, .long 14), (2, .long 0), (4, .long 17)]) (st2 := [.int (-1)]) jF_232_9 rfl rfl) ?_
                                              refine Eq.trans (jr_if0 jF_232_10 (by decide +kernel)) ?_
                                              refine Eq.trans (jr_s (pc2 := 14) (lv2 := [(0, .long 14), (2, .long 0), (4, .long 17)]) (st2 := [.int 1]) jF_232_13 rfl rfl) ?_
                                              refine Eq.trans (jr_s (pc2 := 18) (lv2 := [(0, .long 14), (2, .long 0), (4, .long 17)]) (st2 := [.int 1]) jF_232_14 rfl rfl) ?_
                                              exact jr_ri jF_232_18 rfl
                                            refine Eq.trans (jr_if0 jF_267_9 (by decide +kernel)) ?_
                                            refine Eq.trans (jr_s (pc2 := 13) (lv2 := [(0, .ref 117), (1, .int 14)]) (st2 := [.ref 117]) jF_267_12 rfl rfl) ?_
                                            refine Eq.trans (jr_gf (v := .ref 138) jF_267_13 (by decide +kernel)) ?_
                                            refine Eq.trans (jr_s (pc2 := 18) (lv2 := [(0, .ref 117), (1, .int 14)]) (st2 := [.int 18, .ref 138]) jF_267_16 rfl rfl) ?_
                                            refine Eq.trans (jr_s (pc2 := 19) (lv2 := [(0, .ref 117), (1, .int 14)]) (st2 := [.int 14, .int 18, .ref 138]) jF_267_18 rfl rfl) ?_
                                            refine Eq.trans (jr_s (pc2 := 20) (lv2 := [(0, .ref 117), (1, .int 14)]) (st2 := [.int 32, .ref 138]) jF_267_19 rfl rfl) ?_
                                            refine Eq.trans (jr_ldl (v := .long 0) jF_267_20 (by decide +kernel)) ?_
                                            exact jr_rl jF_267_21
                                          refine Eq.trans (jr_s (pc2 := 6) (lv2 := [(3, .long 0), (0, .ref 117), (1, .int 14), (2, .int a2)]) (st2 := []) jF_266_5 rfl rfl) ?_
                                          refine Eq.trans (jr_s (pc2 := 7) (lv2 := [(3, .long 0), (0, .ref 117), (1, .int 14), (2, .int a2)]) (st2 := [.long 0]) jF_266_6 rfl rfl) ?_
                                          refine Eq.trans (jr_s (pc2 := 8) (lv2 := [(3, .long 0), (0, .ref 117), (1, .int 14), (2, .int a2)]) (st2 := [.long 0, .long 0]) jF_266_7 rfl rfl) ?_
                                          refine Eq.trans (jr_s (pc2 := 9) (lv2 := [(3, .long 0), (0, .ref 117), (1, .int 14), (2, .int a2)]) (st2 := [.int 0]) jF_266_8 rfl rfl) ?_
                                          refine Eq.trans (jr_if1 jF_266_9 (by decide +kernel)) ?_
                                          refine Eq.trans (jr_s (pc2 := 25) (lv2 := [(3, .long 0), (0, .ref 117), (1, .int 14), (2, .int a2)]) (st2 := [.int (-1)]) jF_266_24 rfl rfl) ?_
                                          exact jr_ri jF_266_25 rfl
                                      · rcases j_ilt a1.toInt 16 with h_a1_16 | h_a1_16
                                        · obtain rfl : a1 = 15 := Int32.toInt_inj.mp (by rw [show (15 : Int32).toInt = 15 from by decide]; omega)
                                          refine ⟨60000, 60000, (-1), jh2, jh2, ?_, ?_, by decide +kernel⟩
                                          · refine Eq.trans (jr_s (pc2 := 1) (lv2 := [(0, .ref 9), (1, .int 15), (2, .int a2)]) (st2 := [.ref 9]) jF_92_0 rfl rfl) ?_
                                            refine Eq.trans (jr_gf (v := .ref 20) jF_92_1 (by decide +kernel)) ?_
                                            refine Eq.trans (jr_s (pc2 := 5) (lv2 := [(0, .ref 9), (1, .int 15), (2, .int a2)]) (st2 := [.int 15, .ref 20]) jF_92_4 rfl rfl) ?_
                                            refine Eq.trans (jr_s (pc2 := 6) (lv2 := [(0, .ref 9), (1, .int 15), (2, .int a2)]) (st2 := [.int a2, .int 15, .ref 20]) jF_92_5 rfl rfl) ?_
                                            refine Eq.trans (jr_cV (a := 20) (as := [.int 15, .int a2]) (rest := []) (v := some (.int (-1))) (hp2 := jh2) (fr2 := 499) (lo2 := 19978) jF_92_6 (by decide +kernel) rfl (show j_cnd 500 20000 499 19978 3 _ _ = true from rfl) ?_) ?_
                                            · refine Eq.trans (jr_s (pc2 := 1) (lv2 := [(0, .ref 20), (1, .int 15), (2, .int a2)]) (st2 := [.int 15]) jF_93_0 rfl rfl) ?_
                                              refine Eq.trans (jr_if0 jF_93_1 (by decide +kernel)) ?_
                                              refine Eq.trans (jr_s (pc2 := 5) (lv2 := [(0, .ref 20), (1, .int 15), (2, .int a2)]) (st2 := [.int 15]) jF_93_4 rfl rfl) ?_
                                              refine Eq.trans (jr_s (pc2 := 6) (lv2 := [(0, .ref 20), (1, .int 15), (2, .int a2)]) (st2 := [.ref 20, .int 15]) jF_93_5 rfl rfl) ?_
                                              refine Eq.trans (jr_gf (v := .ref 21) jF_93_6 (by decide +kernel)) ?_
                                              refine Eq.trans (jr_al (v := 25) jF_93_9 (by decide +kernel)) ?_
                                              refine Eq.trans (jr_ic0 jF_93_10 (by decide +kernel)) ?_
                                              refine Eq.trans (jr_s (pc2 := 14) (lv2 := [(0, .ref 20), (1, .int 15), (2, .int a2)]) (st2 := [.int a2]) jF_93_13 rfl rfl) ?_
                                              refine Eq.trans (jr_if0 jF_93_14 (jk_lt_ge (show (0 : Int32).toInt ≤ (a2 : Int32).toInt by rw [show (0 : Int32).toInt = 0 from by decide]; omega))) ?_
                                              refine Eq.trans (jr_s (pc2 := 18) (lv2 := [(0, .ref 20), (1, .int 15), (2, .int a2)]) (st2 := [.int a2]) jF_93_17 rfl rfl) ?_
                                              refine Eq.trans (jr_s (pc2 := 20) (lv2 := [(0, .ref 20), (1, .int 15), (2, .int a2)]) (st2 := [.int 6, .int a2]) jF_93_18 rfl rfl) ?_
                                              refine Eq.trans (jr_ic0 jF_93_20 (jk_ge_lt (show (a2 : Int32).toInt < (6 : Int32).toInt by rw [show (6 : Int32).toInt = 6 from by decide]; omega))) ?_
                                              refine Eq.trans (jr_s (pc2 := 24) (lv2 := [(0, .ref 20), (1, .int 15), (2, .int a2)]) (st2 := [.ref 20]) jF_93_23 rfl rfl) ?_
                                              refine Eq.trans (jr_gf (v := .ref 21) jF_93_24 (by decide +kernel)) ?_
                                              refine Eq.trans (jr_s (pc2 := 28) (lv2 := [(0, .ref 20), (1, .int 15), (2, .int a2)]) (st2 := [.int 15, .ref 21]) jF_93_27 rfl rfl) ?_
                                              refine Eq.trans (jr_ldi (v := .int 0) jF_93_28 (by decide +kernel)) ?_
                                              refine Eq.trans (jr_if0 jF_93_29 (by decide +kernel)) ?_
                                              refine Eq.trans (jr_s (pc2 := 33) (lv2 := [(0, .ref 20), (1, .int 15), (2, .int a2)]) (st2 := [.int (-1)]) jF_93_32 rfl rfl) ?_
                                              exact jr_ri jF_93_33 rfl
                                            exact jr_ri jF_92_9 rfl
                                          · refine Eq.trans (jr_s (pc2 := 1) (lv2 := [(0, .ref 117), (1, .int 15), (2, .int a2)]) (st2 := [.ref 117]) jF_266_0 rfl rfl) ?_
                                            refine Eq.trans (jr_s (pc2 := 2) (lv2 := [(0, .ref 117), (1, .int 15), (2, .int a2)]) (st2 := [.int 15, .ref 117]) jF_266_1 rfl rfl) ?_
                                            refine Eq.trans (jr_cV (a := 117) (as := [.int 15]) (rest := []) (v := some (.long 0)) (hp2 := jh2) (fr2 := 499) (lo2 := 19979) jF_266_2 (by decide +kernel) rfl (show j_cnd 500 20000 499 19979 2 _ _ = true from rfl) ?_) ?_
                                            · refine Eq.trans (jr_s (pc2 := 1) (lv2 := [(0, .ref 117), (1, .int 15)]) (st2 := [.int 15]) jF_267_0 rfl rfl) ?_
                                              refine Eq.trans (jr_s (pc2 := 2) (lv2 := [(0, .ref 117), (1, .int 15)]) (st2 := [.long 15]) jF_267_1 rfl rfl) ?_
                                              refine Eq.trans (jr_s (pc2 := 3) (lv2 := [(0, .ref 117), (1, .int 15)]) (st2 := [.long 0, .long 15]) jF_267_2 rfl rfl) ?_
                                              refine Eq.trans (jr_s (pc2 := 6) (lv2 := [(0, .ref 117), (1, .int 15)]) (st2 := [.long 17, .long 0, .long 15]) jF_267_3 rfl rfl) ?_
                                              refine Eq.trans (jr_cS (as := [.long 15, .long 0, .long 17]) (rest := []) (v := some (.int 1)) (hp2 := jh2) (fr2 := 498) (lo2 := 19954) jF_267_6 rfl (show j_cnd 499 19979 498 19954 6 _ _ = true from rfl) ?_) ?_
                                              · refine Eq.trans (jr_s (pc2 := 1) (lv2 := [(0, .long 15), (2, .long 0), (4, .long 17)]) (st2 := [.long 15]) jF_232_0 rfl rfl) ?_
                                                refine Eq.trans (jr_s (pc2 := 2) (lv2 := [(0, .long 15), (2, .long 0), (4, .long 17)]) (st2 := [.long 0, .long 15]) jF_232_1 rfl rfl) ?_
                                                refine Eq.trans (jr_s (pc2 := 3) (lv2 := [(0, .long 15), (2, .long 0), (4, .long 17)]) (st2 := [.int 1]) jF_232_2 rfl rfl) ?_
                                                refine Eq.trans (jr_if0 jF_232_3 (by decide +kernel)) ?_
                                                refine Eq.trans (jr_s (pc2 := 7) (lv2 := [(0, .long 15), (2, .long 0), (4, .long 17)]) (st2 := [.long 15]) jF_232_6 rfl rfl) ?_
                                                refine Eq.trans (jr_s (pc2 := 9) (lv2 := [(0, .long 15), (2, .long 0), (4, .long 17)]) (st2 := [.long 17, .long 15]) jF_232_7 rfl rfl) ?_
                                                refine Eq.trans (jr_s (pc2 := 10) (lv2 := [(0, .long 15), (2, .long 0), (4, .long 17)]) (st2 := [.int (-1)]) jF_232_9 rfl rfl) ?_
                                                refine Eq.trans (jr_if0 jF_232_10 (by decide +kernel)) ?_
                                                refine Eq.trans (jr_s (pc2 := 14) (lv2 := [(0, .long 15), (2, .long 0), (4, .long 17)]) (st2 := [.int 1]) jF_232_13 rfl rfl) ?_
                                                refine Eq.trans (jr_s (pc2 := 18) (lv2 := [(0, .long 15), (2, .long 0), (4, .long 17)]) (st2 := [.int 1]) jF_232_14 rfl rfl) ?_
                                                exact jr_ri jF_232_18 rfl
                                              refine Eq.trans (jr_if0 jF_267_9 (by decide +kernel)) ?_
                                              refine Eq.trans (jr_s (pc2 := 13) (lv2 := [(0, .ref 117), (1, .int 15)]) (st2 := [.ref 117]) jF_267_12 rfl rfl) ?_
                                              refine Eq.trans (jr_gf (v := .ref 138) jF_267_13 (by decide +kernel)) ?_
                                              refine Eq.trans (jr_s (pc2 := 18) (lv2 := [(0, .ref 117), (1, .int 15)]) (st2 := [.int 18, .ref 138]) jF_267_16 rfl rfl) ?_
                                              refine Eq.trans (jr_s (pc2 := 19) (lv2 := [(0, .ref 117), (1, .int 15)]) (st2 := [.int 15, .int 18, .ref 138]) jF_267_18 rfl rfl) ?_
                                              refine Eq.trans (jr_s (pc2 := 20) (lv2 := [(0, .ref 117), (1, .int 15)]) (st2 := [.int 33, .ref 138]) jF_267_19 rfl rfl) ?_
                                              refine Eq.trans (jr_ldl (v := .long 0) jF_267_20 (by decide +kernel)) ?_
                                              exact jr_rl jF_267_21
                                            refine Eq.trans (jr_s (pc2 := 6) (lv2 := [(3, .long 0), (0, .ref 117), (1, .int 15), (2, .int a2)]) (st2 := []) jF_266_5 rfl rfl) ?_
                                            refine Eq.trans (jr_s (pc2 := 7) (lv2 := [(3, .long 0), (0, .ref 117), (1, .int 15), (2, .int a2)]) (st2 := [.long 0]) jF_266_6 rfl rfl) ?_
                                            refine Eq.trans (jr_s (pc2 := 8) (lv2 := [(3, .long 0), (0, .ref 117), (1, .int 15), (2, .int a2)]) (st2 := [.long 0, .long 0]) jF_266_7 rfl rfl) ?_
                                            refine Eq.trans (jr_s (pc2 := 9) (lv2 := [(3, .long 0), (0, .ref 117), (1, .int 15), (2, .int a2)]) (st2 := [.int 0]) jF_266_8 rfl rfl) ?_
                                            refine Eq.trans (jr_if1 jF_266_9 (by decide +kernel)) ?_
                                            refine Eq.trans (jr_s (pc2 := 25) (lv2 := [(3, .long 0), (0, .ref 117), (1, .int 15), (2, .int a2)]) (st2 := [.int (-1)]) jF_266_24 rfl rfl) ?_
                                            exact jr_ri jF_266_25 rfl
                                        · rcases j_ilt a1.toInt 17 with h_a1_17 | h_a1_17
                                          · obtain rfl : a1 = 16 := Int32.toInt_inj.mp (by rw [show (16 : Int32).toInt = 16 from by decide]; omega)
                                            refine ⟨60000, 60000, (-1), jh2, jh2, ?_, ?_, by decide +kernel⟩
                                            · refine Eq.trans (jr_s (pc2 := 1) (lv2 := [(0, .ref 9), (1, .int 16), (2, .int a2)]) (st2 := [.ref 9]) jF_92_0 rfl rfl) ?_
                                              refine Eq.trans (jr_gf (v := .ref 20) jF_92_1 (by decide +kernel)) ?_
                                              refine Eq.trans (jr_s (pc2 := 5) (lv2 := [(0, .ref 9), (1, .int 16), (2, .int a2)]) (st2 := [.int 16, .ref 20]) jF_92_4 rfl rfl) ?_
                                              refine Eq.trans (jr_s (pc2 := 6) (lv2 := [(0, .ref 9), (1, .int 16), (2, .int a2)]) (st2 := [.int a2, .int 16, .ref 20]) jF_92_5 rfl rfl) ?_
                                              refine Eq.trans (jr_cV (a := 20) (as := [.int 16, .int a2]) (rest := []) (v := some (.int (-1))) (hp2 := jh2) (fr2 := 499) (lo2 := 19978) jF_92_6 (by decide +kernel) rfl (show j_cnd 500 20000 499 19978 3 _ _ = true from rfl) ?_) ?_
                                              · refine Eq.trans (jr_s (pc2 := 1) (lv2 := [(0, .ref 20), (1, .int 16), (2, .int a2)]) (st2 := [.int 16]) jF_93_0 rfl rfl) ?_
                                                refine Eq.trans (jr_if0 jF_93_1 (by decide +kernel)) ?_
                                                refine Eq.trans (jr_s (pc2 := 5) (lv2 := [(0, .ref 20), (1, .int 16), (2, .int a2)]) (st2 := [.int 16]) jF_93_4 rfl rfl) ?_
                                                refine Eq.trans (jr_s (pc2 := 6) (lv2 := [(0, .ref 20), (1, .int 16), (2, .int a2)]) (st2 := [.ref 20, .int 16]) jF_93_5 rfl rfl) ?_
                                                refine Eq.trans (jr_gf (v := .ref 21) jF_93_6 (by decide +kernel)) ?_
                                                refine Eq.trans (jr_al (v := 25) jF_93_9 (by decide +kernel)) ?_
                                                refine Eq.trans (jr_ic0 jF_93_10 (by decide +kernel)) ?_
                                                refine Eq.trans (jr_s (pc2 := 14) (lv2 := [(0, .ref 20), (1, .int 16), (2, .int a2)]) (st2 := [.int a2]) jF_93_13 rfl rfl) ?_
                                                refine Eq.trans (jr_if0 jF_93_14 (jk_lt_ge (show (0 : Int32).toInt ≤ (a2 : Int32).toInt by rw [show (0 : Int32).toInt = 0 from by decide]; omega))) ?_
                                                refine Eq.trans (jr_s (pc2 := 18) (lv2 := [(0, .ref 20), (1, .int 16), (2, .int a2)]) (st2 := [.int a2]) jF_93_17 rfl rfl) ?_
                                                refine Eq.trans (jr_s (pc2 := 20) (lv2 := [(0, .ref 20), (1, .int 16), (2, .int a2)]) (st2 := [.int 6, .int a2]) jF_93_18 rfl rfl) ?_
                                                refine Eq.trans (jr_ic0 jF_93_20 (jk_ge_lt (show (a2 : Int32).toInt < (6 : Int32).toInt by rw [show (6 : Int32).toInt = 6 from by decide]; omega))) ?_
                                                refine Eq.trans (jr_s (pc2 := 24) (lv2 := [(0, .ref 20), (1, .int 16), (2, .int a2)]) (st2 := [.ref 20]) jF_93_23 rfl rfl) ?_
                                                refine Eq.trans (jr_gf (v := .ref 21) jF_93_24 (by decide +kernel)) ?_
                                                refine Eq.trans (jr_s (pc2 := 28) (lv2 := [(0, .ref 20), (1, .int 16), (2, .int a2)]) (st2 := [.int 16, .ref 21]) jF_93_27 rfl rfl) ?_
                                                refine Eq.trans (jr_ldi (v := .int 0) jF_93_28 (by decide +kernel)) ?_
                                                refine Eq.trans (jr_if0 jF_93_29 (by decide +kernel)) ?_
                                                refine Eq.trans (jr_s (pc2 := 33) (lv2 := [(0, .ref 20), (1, .int 16), (2, .int a2)]) (st2 := [.int (-1)]) jF_93_32 rfl rfl) ?_
                                                exact jr_ri jF_93_33 rfl
                                              exact jr_ri jF_92_9 rfl
                                            · refine Eq.trans (jr_s (pc2 := 1) (lv2 := [(0, .ref 117), (1, .int 16), (2, .int a2)]) (st2 := [.ref 117]) jF_266_0 rfl rfl) ?_
                                              refine Eq.trans (jr_s (pc2 := 2) (lv2 := [(0, .ref 117), (1, .int 16), (2, .int a2)]) (st2 := [.int 16, .ref 117]) jF_266_1 rfl rfl) ?_
                                              refine Eq.trans (jr_cV (a := 117) (as := [.int 16]) (rest := []) (v := some (.long 0)) (hp2 := jh2) (fr2 := 499) (lo2 := 19979) jF_266_2 (by decide +kernel) rfl (show j_cnd 500 20000 499 19979 2 _ _ = true from rfl) ?_) ?_
                                              · refine Eq.trans (jr_s (pc2 := 1) (lv2 := [(0, .ref 117), (1, .int 16)]) (st2 := [.int 16]) jF_267_0 rfl rfl) ?_
                                                refine Eq.trans (jr_s (pc2 := 2) (lv2 := [(0, .ref 117), (1, .int 16)]) (st2 := [.long 16]) jF_267_1 rfl rfl) ?_
                                                refine Eq.trans (jr_s (pc2 := 3) (lv2 := [(0, .ref 117), (1, .int 16)]) (st2 := [.long 0, .long 16]) jF_267_2 rfl rfl) ?_
                                                refine Eq.trans (jr_s (pc2 := 6) (lv2 := [(0, .ref 117), (1, .int 16)]) (st2 := [.long 17, .long 0, .long 16]) jF_267_3 rfl rfl) ?_
                                                refine Eq.trans (jr_cS (as := [.long 16, .long 0, .long 17]) (rest := []) (v := some (.int 1)) (hp2 := jh2) (fr2 := 498) (lo2 := 19954) jF_267_6 rfl (show j_cnd 499 19979 498 19954 6 _ _ = true from rfl) ?_) ?_
                                                · refine Eq.trans (jr_s (pc2 := 1) (lv2 := [(0, .long 16), (2, .long 0), (4, .long 17)]) (st2 := [.long 16]) jF_232_0 rfl rfl) ?_
                                                  refine Eq.trans (jr_s (pc2 := 2) (lv2 := [(0, .long 16), (2, .long 0), (4, .long 17)]) (st2 := [.long 0, .long 16]) jF_232_1 rfl rfl) ?_
                                                  refine Eq.trans (jr_s (pc2 := 3) (lv2 := [(0, .long 16), (2, .long 0), (4, .long 17)]) (st2 := [.int 1]) jF_232_2 rfl rfl) ?_
                                                  refine Eq.trans (jr_if0 jF_232_3 (by decide +kernel)) ?_
                                                  refine Eq.trans (jr_s (pc2 := 7) (lv2 := [(0, .long 16), (2, .long 0), (4, .long 17)]) (st2 := [.long 16]) jF_232_6 rfl rfl) ?_
                                                  refine Eq.trans (jr_s (pc2 := 9) (lv2 := [(0, .long 16), (2, .long 0), (4, .long 17)]) (st2 := [.long 17, .long 16]) jF_232_7 rfl rfl) ?_
                                                  refine Eq.trans (jr_s (pc2 := 10) (lv2 := [(0, .long 16), (2, .long 0), (4, .long 17)]) (st2 := [.int (-1)]) jF_232_9 rfl rfl) ?_
                                                  refine Eq.trans (jr_if0 jF_232_10 (by decide +kernel)) ?_
                                                  refine Eq.trans (jr_s (pc2 := 14) (lv2 := [(0, .long 16), (2, .long 0), (4, .long 17)]) (st2 := [.int 1]) jF_232_13 rfl rfl) ?_
                                                  refine Eq.trans (jr_s (pc2 := 18) (lv2 := [(0, .long 16), (2, .long 0), (4, .long 17)]) (st2 := [.int 1]) jF_232_14 rfl rfl) ?_
                                                  exact jr_ri jF_232_18 rfl
                                                refine Eq.trans (jr_if0 jF_267_9 (by decide +kernel)) ?_
                                                refine Eq.trans (jr_s (pc2 := 13) (lv2 := [(0, .ref 117), (1, .int 16)]) (st2 := [.ref 117]) jF_267_12 rfl rfl) ?_
                                                refine Eq.trans (jr_gf (v := .ref 138) jF_267_13 (by decide +kernel)) ?_
                                                refine Eq.trans (jr_s (pc2 := 18) (lv2 := [(0, .ref 117), (1, .int 16)]) (st2 := [.int 18, .ref 138]) jF_267_16 rfl rfl) ?_
                                                refine Eq.trans (jr_s (pc2 := 19) (lv2 := [(0, .ref 117), (1, .int 16)]) (st2 := [.int 16, .int 18, .ref 138]) jF_267_18 rfl rfl) ?_
                                                refine Eq.trans (jr_s (pc2 := 20) (lv2 := [(0, .ref 117), (1, .int 16)]) (st2 := [.int 34, .ref 138]) jF_267_19 rfl rfl) ?_
                                                refine Eq.trans (jr_ldl (v := .long 0) jF_267_20 (by decide +kernel)) ?_
                                                exact jr_rl jF_267_21
                                              refine Eq.trans (jr_s (pc2 := 6) (lv2 := [(3, .long 0), (0, .ref 117), (1, .int 16), (2, .int a2)]) (st2 := []) jF_266_5 rfl rfl) ?_
                                              refine Eq.trans (jr_s (pc2 := 7) (lv2 := [(3, .long 0), (0, .ref 117), (1, .int 16), (2, .int a2)]) (st2 := [.long 0]) jF_266_6 rfl rfl) ?_
                                              refine Eq.trans (jr_s (pc2 := 8) (lv2 := [(3, .long 0), (0, .ref 117), (1, .int 16), (2, .int a2)]) (st2 := [.long 0, .long 0]) jF_266_7 rfl rfl) ?_
                                              refine Eq.trans (jr_s (pc2 := 9) (lv2 := [(3, .long 0), (0, .ref 117), (1, .int 16), (2, .int a2)]) (st2 := [.int 0]) jF_266_8 rfl rfl) ?_
                                              refine Eq.trans (jr_if1 jF_266_9 (by decide +kernel)) ?_
                                              refine Eq.trans (jr_s (pc2 := 25) (lv2 := [(3, .long 0), (0, .ref 117), (1, .int 16), (2, .int a2)]) (st2 := [.int (-1)]) jF_266_24 rfl rfl) ?_
                                              exact jr_ri jF_266_25 rfl
                                          · rcases j_ilt a1.toInt 18 with h_a1_18 | h_a1_18
                                            · obtain rfl : a1 = 17 := Int32.toInt_inj.mp (by rw [show (17 : Int32).toInt = 17 from by decide]; omega)
                                              refine ⟨60000, 60000, (-1), jh2, jh2, ?_, ?_, by decide +kernel⟩
                                              · refine Eq.trans (jr_s (pc2 := 1) (lv2 := [(0, .ref 9), (1, .int 17), (2, .int a2)]) (st2 := [.ref 9]) jF_92_0 rfl rfl) ?_
                                                refine Eq.trans (jr_gf (v := .ref 20) jF_92_1 (by decide +kernel)) ?_
                                                refine Eq.trans (jr_s (pc2 := 5) (lv2 := [(0, .ref 9), (1, .int 17), (2, .int a2)]) (st2 := [.int 17, .ref 20]) jF_92_4 rfl rfl) ?_
                                                refine Eq.trans (jr_s (pc2 := 6) (lv2 := [(0, .ref 9), (1, .int 17), (2, .int a2)]) (st2 := [.int a2, .int 17, .ref 20]) jF_92_5 rfl rfl) ?_
                                                refine Eq.trans (jr_cV (a := 20) (as := [.int 17, .int a2]) (rest := []) (v := some (.int (-1))) (hp2 := jh2) (fr2 := 499) (lo2 := 19978) jF_92_6 (by decide +kernel) rfl (show j_cnd 500 20000 499 19978 3 _ _ = true from rfl) ?_) ?_
                                                · refine Eq.trans (jr_s (pc2 := 1) (lv2 := [(0, .ref 20), (1, .int 17), (2, .int a2)]) (st2 := [.int 17]) jF_93_0 rfl rfl) ?_
                                                  refine Eq.trans (jr_if0 jF_93_1 (by decide +kernel)) ?_
                                                  refine Eq.trans (jr_s (pc2 := 5) (lv2 := [(0, .ref 20), (1, .int 17), (2, .int a2)]) (st2 := [.int 17]) jF_93_4 rfl rfl) ?_
                                                  refine Eq.trans (jr_s (pc2 := 6) (lv2 := [(0, .ref 20), (1, .int 17), (2, .int a2)]) (st2 := [.ref 20, .int 17]) jF_93_5 rfl rfl) ?_
                                                  refine Eq.trans (jr_gf (v := .ref 21) jF_93_6 (by decide +kernel)) ?_
                                                  refine Eq.trans (jr_al (v := 25) jF_93_9 (by decide +kernel)) ?_
                                                  refine Eq.trans (jr_ic0 jF_93_10 (by decide +kernel)) ?_
                                                  refine Eq.trans (jr_s (pc2 := 14) (lv2 := [(0, .ref 20), (1, .int 17), (2, .int a2)]) (st2 := [.int a2]) jF_93_13 rfl rfl) ?_
                                                  refine Eq.trans (jr_if0 jF_93_14 (jk_lt_ge (show (0 : Int32).toInt ≤ (a2 : Int32).toInt by rw [show (0 : Int32).toInt = 0 from by decide]; omega))) ?_
                                                  refine Eq.trans (jr_s (pc2 := 18) (lv2 := [(0, .ref 20), (1, .int 17), (2, .int a2)]) (st2 := [.int a2]) jF_93_17 rfl rfl) ?_
                                                  refine Eq.trans (jr_s (pc2 := 20) (lv2 := [(0, .ref 20), (1, .int 17), (2, .int a2)]) (st2 := [.int 6, .int a2]) jF_93_18 rfl rfl) ?_
                                                  refine Eq.trans (jr_ic0 jF_93_20 (jk_ge_lt (show (a2 : Int32).toInt < (6 : Int32).toInt by rw [show (6 : Int32).toInt = 6 from by decide]; omega))) ?_
                                                  refine Eq.trans (jr_s (pc2 := 24) (lv2 := [(0, .ref 20), (1, .int 17), (2, .int a2)]) (st2 := [.ref 20]) jF_93_23 rfl rfl) ?_
                                                  refine Eq.trans (jr_gf (v := .ref 21) jF_93_24 (by decide +kernel)) ?_
                                                  refine Eq.trans (jr_s (pc2 := 28) (lv2 := [(0, .ref 20), (1, .int 17), (2, .int a2)]) (st2 := [.int 17, .ref 21]) jF_93_27 rfl rfl) ?_
                                                  refine Eq.trans (jr_ldi (v := .int 0) jF_93_28 (by decide +kernel)) ?_
                                                  refine Eq.trans (jr_if0 jF_93_29 (by decide +kernel)) ?_
                                                  refine Eq.trans (jr_s (pc2 := 33) (lv2 := [(0, .ref 20), (1, .int 17), (2, .int a2)]) (st2 := [.int (-1)]) jF_93_32 rfl rfl) ?_
                                                  exact jr_ri jF_93_33 rfl
                                                exact jr_ri jF_92_9 rfl
                                              · refine Eq.trans (jr_s (pc2 := 1) (lv2 := [(0, .ref 117), (1, .int 17), (2, .int a2)]) (st2 := [.ref 117]) jF_266_0 rfl rfl) ?_
                                                refine Eq.trans (jr_s (pc2 := 2) (lv2 := [(0, .ref 117), (1, .int 17), (2, .int a2)]) (st2 := [.int 17, .ref 117]) jF_266_1 rfl rfl) ?_
                                                refine Eq.trans (jr_cV (a := 117) (as := [.int 17]) (rest := []) (v := some (.long 0)) (hp2 := jh2) (fr2 := 499) (lo2 := 19979) jF_266_2 (by decide +kernel) rfl (show j_cnd 500 20000 499 19979 2 _ _ = true from rfl) ?_) ?_
                                                · refine Eq.trans (jr_s (pc2 := 1) (lv2 := [(0, .ref 117), (1, .int 17)]) (st2 := [.int 17]) jF_267_0 rfl rfl) ?_
                                                  refine Eq.trans (jr_s (pc2 := 2) (lv2 := [(0, .ref 117), (1, .int 17)]) (st2 := [.long 17]) jF_267_1 rfl rfl) ?_
                                                  refine Eq.trans (jr_s (pc2 := 3) (lv2 := [(0, .ref 117), (1, .int 17)]) (st2 := [.long 0, .long 17]) jF_267_2 rfl rfl) ?_
                                                  refine Eq.trans (jr_s (pc2 := 6) (lv2 := [(0, .ref 117), (1, .int 17)]) (st2 := [.long 17, .long 0, .long 17]) jF_267_3 rfl rfl) ?_
                                                  refine Eq.trans (jr_cS (as := [.long 17, .long 0, .long 17]) (rest := []) (v := some (.int 1)) (hp2 := jh2) (fr2 := 498) (lo2 := 19954) jF_267_6 rfl (show j_cnd 499 19979 498 19954 6 _ _ = true from rfl) ?_) ?_
                                                  · refine Eq.trans (jr_s (pc2 := 1) (lv2 := [(0, .long 17), (2, .long 0), (4, .long 17)]) (st2 := [.long 17]) jF_232_0 rfl rfl) ?_
                                                    refine Eq.trans (jr_s (pc2 := 2) (lv2 := [(0, .long 17), (2, .long 0), (4, .long 17)]) (st2 := [.long 0, .long 17]) jF_232_1 rfl rfl) ?_
                                                    refine Eq.trans (jr_s (pc2 := 3) (lv2 := [(0, .long 17), (2, .long 0), (4, .long 17)]) (st2 := [.int 1]) jF_232_2 rfl rfl) ?_
                                                    refine Eq.trans (jr_if0 jF_232_3 (by decide +kernel)) ?_
                                                    refine Eq.trans (jr_s (pc2 := 7) (lv2 := [(0, .long 17), (2, .long 0), (4, .long 17)]) (st2 := [.long 17]) jF_232_6 rfl rfl) ?_
                                                    refine Eq.trans (jr_s (pc2 := 9) (lv2 := [(0, .long 17), (2, .long 0), (4, .long 17)]) (st2 := [.long 17, .long 17]) jF_232_7 rfl rfl) ?_
                                                    refine Eq.trans (jr_s (pc2 := 10) (lv2 := [(0, .long 17), (2, .long 0), (4, .long 17)]) (st2 := [.int 0]) jF_232_9 rfl rfl) ?_
                                                    refine Eq.trans (jr_if0 jF_232_10 (by decide +kernel)) ?_
                                                    refine Eq.trans (jr_s (pc2 := 14) (lv2 := [(0, .long 17), (2, .long 0), (4, .long 17)]) (st2 := [.int 1]) jF_232_13 rfl rfl) ?_
                                                    refine Eq.trans (jr_s (pc2 := 18) (lv2 := [(0, .long 17), (2, .long 0), (4, .long 17)]) (st2 := [.int 1]) jF_232_14 rfl rfl) ?_
                                                    exact jr_ri jF_232_18 rfl
                                                  refine Eq.trans (jr_if0 jF_267_9 (by decide +kernel)) ?_
                                                  refine Eq.trans (jr_s (pc2 := 13) (lv2 := [(0, .ref 117), (1, .int 17)]) (st2 := [.ref 117]) jF_267_12 rfl rfl) ?_
                                                  refine Eq.trans (jr_gf (v := .ref 138) jF_267_13 (by decide +kernel)) ?_
                                                  refine Eq.trans (jr_s (pc2 := 18) (lv2 := [(0, .ref 117), (1, .int 17)]) (st2 := [.int 18, .ref 138]) jF_267_16 rfl rfl) ?_
                                                  refine Eq.trans (jr_s (pc2 := 19) (lv2 := [(0, .ref 117), (1, .int 17)]) (st2 := [.int 17, .int 18, .ref 138]) jF_267_18 rfl rfl) ?_
                                                  refine Eq.trans (jr_s (pc2 := 20) (lv2 := [(0, .ref 117), (1, .int 17)]) (st2 := [.int 35, .ref 138]) jF_267_19 rfl rfl) ?_
                                                  refine Eq.trans (jr_ldl (v := .long 0) jF_267_20 (by decide +kernel)) ?_
                                                  exact jr_rl jF_267_21
                                                refine Eq.trans (jr_s (pc2 := 6) (lv2 := [(3, .long 0), (0, .ref 117), (1, .int 17), (2, .int a2)]) (st2 := []) jF_266_5 rfl rfl) ?_
                                                refine Eq.trans (jr_s (pc2 := 7) (lv2 := [(3, .long 0), (0, .ref 117), (1, .int 17), (2, .int a2)]) (st2 := [.long 0]) jF_266_6 rfl rfl) ?_
                                                refine Eq.trans (jr_s (pc2 := 8) (lv2 := [(3, .long 0), (0, .ref 117), (1, .int 17), (2, .int a2)]) (st2 := [.long 0, .long 0]) jF_266_7 rfl rfl) ?_
                                                refine Eq.trans (jr_s (pc2 := 9) (lv2 := [(3, .long 0), (0, .ref 117), (1, .int 17), (2, .int a2)]) (st2 := [.int 0]) jF_266_8 rfl rfl) ?_
                                                refine Eq.trans (jr_if1 jF_266_9 (by decide +kernel)) ?_
                                                refine Eq.trans (jr_s (pc2 := 25) (lv2 := [(3, .long 0), (0, .ref 117), (1, .int 17), (2, .int a2)]) (st2 := [.int (-1)]) jF_266_24 rfl rfl) ?_
                                                exact jr_ri jF_266_25 rfl
                                            · rcases j_ilt a1.toInt 19 with h_a1_19 | h_a1_19
                                              · obtain rfl : a1 = 18 := Int32.toInt_inj.mp (by rw [show (18 : Int32).toInt = 18 from by decide]; omega)
                                                refine ⟨60000, 60000, (-1), jh2, jh2, ?_, ?_, by decide +kernel⟩
                                                · refine Eq.trans (jr_s (pc2 := 1) (lv2 := [(0, .ref 9), (1, .int 18), (2, .int a2)]) (st2 := [.ref 9]) jF_92_0 rfl rfl) ?_
                                                  refine Eq.trans (jr_gf (v := .ref 20) jF_92_1 (by decide +kernel)) ?_
                                                  refine Eq.trans (jr_s (pc2 := 5) (lv2 := [(0, .ref 9), (1, .int 18), (2, .int a2)]) (st2 := [.int 18, .ref 20]) jF_92_4 rfl rfl) ?_
                                                  refine Eq.trans (jr_s (pc2 := 6) (lv2 := [(0, .ref 9), (1, .int 18), (2, .int a2)]) (st2 := [.int a2, .int 18, .ref 20]) jF_92_5 rfl rfl) ?_
                                                  refine Eq.trans (jr_cV (a := 20) (as := [.int 18, .int a2]) (rest := []) (v := some (.int (-1))) (hp2 := jh2) (fr2 := 499) (lo2 := 19978) jF_92_6 (by decide +kernel) rfl (show j_cnd 500 20000 499 19978 3 _ _ = true from rfl) ?_) ?_
                                                  · refine Eq.trans (jr_s (pc2 := 1) (lv2 := [(0, .ref 20), (1, .int 18), (2, .int a2)]) (st2 := [.int 18]) jF_93_0 rfl rfl) ?_
                                                    refine Eq.trans (jr_if0 jF_93_1 (by decide +kernel)) ?_
                                                    refine Eq.trans (jr_s (pc2 := 5) (lv2 := [(0, .ref 20), (1, .int 18), (2, .int a2)]) (st2 := [.int 18]) jF_93_4 rfl rfl) ?_
                                                    refine Eq.trans (jr_s (pc2 := 6) (lv2 := [(0, .ref 20), (1, .int 18), (2, .int a2)]) (st2 := [.ref 20, .int 18]) jF_93_5 rfl rfl) ?_
                                                    refine Eq.trans (jr_gf (v := .ref 21) jF_93_6 (by decide +kernel)) ?_
                                                    refine Eq.trans (jr_al (v := 25) jF_93_9 (by decide +kernel)) ?_
                                                    refine Eq.trans (jr_ic0 jF_93_10 (by decide +kernel)) ?_
                                                    refine Eq.trans (jr_s (pc2 := 14) (lv2 := [(0, .ref 20), (1, .int 18), (2, .int a2)]) (st2 := [.int a2]) jF_93_13 rfl rfl) ?_
                                                    refine Eq.trans (jr_if0 jF_93_14 (jk_lt_ge (show (0 : Int32).toInt ≤ (a2 : Int32).toInt by rw [show (0 : Int32).toInt = 0 from by decide]; omega))) ?_
                                                    refine Eq.trans (jr_s (pc2 := 18) (lv2 := [(0, .ref 20), (1, .int 18), (2, .int a2)]) (st2 := [.int a2]) jF_93_17 rfl rfl) ?_
                                                    refine Eq.trans (jr_s (pc2 := 20) (lv2 := [(0, .ref 20), (1, .int 18), (2, .int a2)]) (st2 := [.int 6, .int a2]) jF_93_18 rfl rfl) ?_
                                                    refine Eq.trans (jr_ic0 jF_93_20 (jk_ge_lt (show (a2 : Int32).toInt < (6 : Int32).toInt by rw [show (6 : Int32).toInt = 6 from by decide]; omega))) ?_
                                                    refine Eq.trans (jr_s (pc2 := 24) (lv2 := [(0, .ref 20), (1, .int 18), (2, .int a2)]) (st2 := [.ref 20]) jF_93_23 rfl rfl) ?_
                                                    refine Eq.trans (jr_gf (v := .ref 21) jF_93_24 (by decide +kernel)) ?_
                                                    refine Eq.trans (jr_s (pc2 := 28) (lv2 := [(0, .ref 20), (1, .int 18), (2, .int a2)]) (st2 := [.int 18, .ref 21]) jF_93_27 rfl rfl) ?_
                                                    refine Eq.trans (jr_ldi (v := .int 0) jF_93_28 (by decide +kernel)) ?_
                                                    refine Eq.trans (jr_if0 jF_93_29 (by decide +kernel)) ?_
                                                    refine Eq.trans (jr_s (pc2 := 33) (lv2 := [(0, .ref 20), (1, .int 18), (2, .int a2)]) (st2 := [.int (-1)]) jF_93_32 rfl rfl) ?_
                                                    exact jr_ri jF_93_33 rfl
                                                  exact jr_ri jF_92_9 rfl
                                                · refine Eq.trans (jr_s (pc2 := 1) (lv2 := [(0, .ref 117), (1, .int 18), (2, .int a2)]) (st2 := [.ref 117]) jF_266_0 rfl rfl) ?_
                                                  refine Eq.trans (jr_s (pc2 := 2) (lv2 := [(0, .ref 117), (1, .int 18), (2, .int a2)]) (st2 := [.int 18, .ref 117]) jF_266_1 rfl rfl) ?_
                                                  refine Eq.trans (jr_cV (a := 117) (as := [.int 18]) (rest := []) (v := some (.long 0)) (hp2 := jh2) (fr2 := 499) (lo2 := 19979) jF_266_2 (by decide +kernel) rfl (show j_cnd 500 20000 499 19979 2 _ _ = true from rfl) ?_) ?_
                                                  · refine Eq.trans (jr_s (pc2 := 1) (lv2 := [(0, .ref 117), (1, .int 18)]) (st2 := [.int 18]) jF_267_0 rfl rfl) ?_
                                                    refine Eq.trans (jr_s (pc2 := 2) (lv2 := [(0, .ref 117), (1, .int 18)]) (st2 := [.long 18]) jF_267_1 rfl rfl) ?_
                                                    refine Eq.trans (jr_s (pc2 := 3) (lv2 := [(0, .ref 117), (1, .int 18)]) (st2 := [.long 0, .long 18]) jF_267_2 rfl rfl) ?_
                                                    refine Eq.trans (jr_s (pc2 := 6) (lv2 := [(0, .ref 117), (1, .int 18)]) (st2 := [.long 17, .long 0, .long 18]) jF_267_3 rfl rfl) ?_
                                                    refine Eq.trans (jr_cS (as := [.long 18, .long 0, .long 17]) (rest := []) (v := some (.int 0)) (hp2 := jh2) (fr2 := 498) (lo2 := 19954) jF_267_6 rfl (show j_cnd 499 19979 498 19954 6 _ _ = true from rfl) ?_) ?_
                                                    · refine Eq.trans (jr_s (pc2 := 1) (lv2 := [(0, .long 18), (2, .long 0), (4, .long 17)]) (st2 := [.long 18]) jF_232_0 rfl rfl) ?_
                                                      refine Eq.trans (jr_s (pc2 := 2) (lv2 := [(0, .long 18), (2, .long 0), (4, .long 17)]) (st2 := [.long 0, .long 18]) jF_232_1 rfl rfl) ?_
                                                      refine Eq.trans (jr_s (pc2 := 3) (lv2 := [(0, .long 18), (2, .long 0), (4, .long 17)]) (st2 := [.int 1]) jF_232_2 rfl rfl) ?_
                                                      refine Eq.trans (jr_if0 jF_232_3 (by decide +kernel)) ?_
                                                      refine Eq.trans (jr_s (pc2 := 7) (lv2 := [(0, .long 18), (2, .long 0), (4, .long 17)]) (st2 := [.long 18]) jF_232_6 rfl rfl) ?_
                                                      refine Eq.trans (jr_s (pc2 := 9) (lv2 := [(0, .long 18), (2, .long 0), (4, .long 17)]) (st2 := [.long 17, .long 18]) jF_232_7 rfl rfl) ?_
                                                      refine Eq.trans (jr_s (pc2 := 10) (lv2 := [(0, .long 18), (2, .long 0), (4, .long 17)]) (st2 := [.int 1]) jF_232_9 rfl rfl) ?_
                                                      refine Eq.trans (jr_if1 jF_232_10 (by decide +kernel)) ?_
                                                      refine Eq.trans (jr_s (pc2 := 18) (lv2 := [(0, .long 18), (2, .long 0), (4, .long 17)]) (st2 := [.int 0]) jF_232_17 rfl rfl) ?_
                                                      exact jr_ri jF_232_18 rfl
                                                    refine Eq.trans (jr_if1 jF_267_9 (by decide +kernel)) ?_
                                                    refine Eq.trans (jr_s (pc2 := 23) (lv2 := [(0, .ref 117), (1, .int 18)]) (st2 := [.int 18]) jF_267_22 rfl rfl) ?_
                                                    refine Eq.trans (jr_s (pc2 := 25) (lv2 := [(0, .ref 117), (1, .int 18)]) (st2 := [.int 20, .int 18]) jF_267_23 rfl rfl) ?_
                                                    refine Eq.trans (jr_s (pc2 := 26) (lv2 := [(0, .ref 117), (1, .int 18)]) (st2 := [.int (-2)]) jF_267_25 rfl rfl) ?_
                                                    refine Eq.trans (jr_s (pc2 := 27) (lv2 := [(0, .ref 117), (1, .int 18)]) (st2 := [.long (-2)]) jF_267_26 rfl rfl) ?_
                                                    refine Eq.trans (jr_s (pc2 := 28) (lv2 := [(0, .ref 117), (1, .int 18)]) (st2 := [.long 0, .long (-2)]) jF_267_27 rfl rfl) ?_
                                                    refine Eq.trans (jr_s (pc2 := 29) (lv2 := [(0, .ref 117), (1, .int 18)]) (st2 := [.ref 117, .long 0, .long (-2)]) jF_267_28 rfl rfl) ?_
                                                    refine Eq.trans (jr_gf (v := .int 0) jF_267_29 (by decide +kernel)) ?_
                                                    refine Eq.trans (jr_s (pc2 := 33) (lv2 := [(0, .ref 117), (1, .int 18)]) (st2 := [.int 1, .int 0, .long 0, .long (-2)]) jF_267_32 rfl rfl) ?_
                                                    refine Eq.trans (jr_s (pc2 := 34) (lv2 := [(0, .ref 117), (1, .int 18)]) (st2 := [.int (-1), .long 0, .long (-2)]) jF_267_33 rfl rfl) ?_
                                                    refine Eq.trans (jr_s (pc2 := 35) (lv2 := [(0, .ref 117), (1, .int 18)]) (st2 := [.long (-1), .long 0, .long (-2)]) jF_267_34 rfl rfl) ?_
                                                    refine Eq.trans (jr_cS (as := [.long (-2), .long 0, .long (-1)]) (rest := []) (v := some (.int 0)) (hp2 := jh2) (fr2 := 498) (lo2 := 19954) jF_267_35 rfl (show j_cnd 499 19979 498 19954 6 _ _ = true from rfl) ?_) ?_
                                                    · refine Eq.trans (jr_s (pc2 := 1) (lv2 := [(0, .long (-2)), (2, .long 0), (4, .long (-1))]) (st2 := [.long (-2)]) jF_232_0 rfl rfl) ?_
                                                      refine Eq.trans (jr_s (pc2 := 2) (lv2 := [(0, .long (-2)), (2, .long 0), (4, .long (-1))]) (st2 := [.long 0, .long (-2)]) jF_232_1 rfl rfl) ?_
                                                      refine Eq.trans (jr_s (pc2 := 3) (lv2 := [(0, .long (-2)), (2, .long 0), (4, .long (-1))]) (st2 := [.int (-1)]) jF_232_2 rfl rfl) ?_
                                                      refine Eq.trans (jr_if1 jF_232_3 (by decide +kernel)) ?_
                                                      refine Eq.trans (jr_s (pc2 := 18) (lv2 := [(0, .long (-2)), (2, .long 0), (4, .long (-1))]) (st2 := [.int 0]) jF_232_17 rfl rfl) ?_
                                                      exact jr_ri jF_232_18 rfl
                                                    refine Eq.trans (jr_if1 jF_267_38 (by decide +kernel)) ?_
                                                    refine Eq.trans (jr_s (pc2 := 56) (lv2 := [(0, .ref 117), (1, .int 18)]) (st2 := [.long 0]) jF_267_55 rfl rfl) ?_
                                                    exact jr_rl jF_267_56
                                                  refine Eq.trans (jr_s (pc2 := 6) (lv2 := [(3, .long 0), (0, .ref 117), (1, .int 18), (2, .int a2)]) (st2 := []) jF_266_5 rfl rfl) ?_
                                                  refine Eq.trans (jr_s (pc2 := 7) (lv2 := [(3, .long 0), (0, .ref 117), (1, .int 18), (2, .int a2)]) (st2 := [.long 0]) jF_266_6 rfl rfl) ?_
                                                  refine Eq.trans (jr_s (pc2 := 8) (lv2 := [(3, .long 0), (0, .ref 117), (1, .int 18), (2, .int a2)]) (st2 := [.long 0, .long 0]) jF_266_7 rfl rfl) ?_
                                                  refine Eq.trans (jr_s (pc2 := 9) (lv2 := [(3, .long 0), (0, .ref 117), (1, .int 18), (2, .int a2)]) (st2 := [.int 0]) jF_266_8 rfl rfl) ?_
                                                  refine Eq.trans (jr_if1 jF_266_9 (by decide +kernel)) ?_
                                                  refine Eq.trans (jr_s (pc2 := 25) (lv2 := [(3, .long 0), (0, .ref 117), (1, .int 18), (2, .int a2)]) (st2 := [.int (-1)]) jF_266_24 rfl rfl) ?_
                                                  exact jr_ri jF_266_25 rfl
                                              · rcases j_ilt a1.toInt 20 with h_a1_20 | h_a1_20
                                                · obtain rfl : a1 = 19 := Int32.toInt_inj.mp (by rw [show (19 : Int32).toInt = 19 from by decide]; omega)
                                                  refine ⟨60000, 60000, (-1), jh2, jh2, ?_, ?_, by decide +kernel⟩
                                                  · refine Eq.trans (jr_s (pc2 := 1) (lv2 := [(0, .ref 9), (1, .int 19), (2, .int a2)]) (st2 := [.ref 9]) jF_92_0 rfl rfl) ?_
                                                    refine Eq.trans (jr_gf (v := .ref 20) jF_92_1 (by decide +kernel)) ?_
                                                    refine Eq.trans (jr_s (pc2 := 5) (lv2 := [(0, .ref 9), (1, .int 19), (2, .int a2)]) (st2 := [.int 19, .ref 20]) jF_92_4 rfl rfl) ?_
                                                    refine Eq.trans (jr_s (pc2 := 6) (lv2 := [(0, .ref 9), (1, .int 19), (2, .int a2)]) (st2 := [.int a2, .int 19, .ref 20]) jF_92_5 rfl rfl) ?_
                                                    refine Eq.trans (jr_cV (a := 20) (as := [.int 19, .int a2]) (rest := []) (v := some (.int (-1))) (hp2 := jh2) (fr2 := 499) (lo2 := 19978) jF_92_6 (by decide +kernel) rfl (show j_cnd 500 20000 499 19978 3 _ _ = true from rfl) ?_) ?_
                                                    · refine Eq.trans (jr_s (pc2 := 1) (lv2 := [(0, .ref 20), (1, .int 19), (2, .int a2)]) (st2 := [.int 19]) jF_93_0 rfl rfl) ?_
                                                      refine Eq.trans (jr_if0 jF_93_1 (by decide +kernel)) ?_
                                                      refine Eq.trans (jr_s (pc2 := 5) (lv2 := [(0, .ref 20), (1, .int 19), (2, .int a2)]) (st2 := [.int 19]) jF_93_4 rfl rfl) ?_
                                                      refine Eq.trans (jr_s (pc2 := 6) (lv2 := [(0, .ref 20), (1, .int 19), (2, .int a2)]) (st2 := [.ref 20, .int 19]) jF_93_5 rfl rfl) ?_
                                                      refine Eq.trans (jr_gf (v := .ref 21) jF_93_6 (by decide +kernel)) ?_
                                                      refine Eq.trans (jr_al (v := 25) jF_93_9 (by decide +kernel)) ?_
                                                      refine Eq.trans (jr_ic0 jF_93_10 (by decide +kernel)) ?_
                                                      refine Eq.trans (jr_s (pc2 := 14) (lv2 := [(0, .ref 20), (1, .int 19), (2, .int a2)]) (st2 := [.int a2]) jF_93_13 rfl rfl) ?_
                                                      refine Eq.trans (jr_if0 jF_93_14 (jk_lt_ge (show (0 : Int32).toInt ≤ (a2 : Int32).toInt by rw [show (0 : Int32).toInt = 0 from by decide]; omega))) ?_
                                                      refine Eq.trans (jr_s (pc2 := 18) (lv2 := [(0, .ref 20), (1, .int 19), (2, .int a2)]) (st2 := [.int a2]) jF_93_17 rfl rfl) ?_
                                                      refine Eq.trans (jr_s (pc2 := 20) (lv2 := [(0, .ref 20), (1, .int 19), (2, .int a2)]) (st2 := [.int 6, .int a2]) jF_93_18 rfl rfl) ?_
                                                      refine Eq.trans (jr_ic0 jF_93_20 (jk_ge_lt (show (a2 : Int32).toInt < (6 : Int32).toInt by rw [show (6 : Int32).toInt = 6 from by decide]; omega))) ?_
                                                      refine Eq.trans (jr_s (pc2 := 24) (lv2 := [(0, .ref 20), (1, .int 19), (2, .int a2)]) (st2 := [.ref 20]) jF_93_23 rfl rfl) ?_
                                                      refine Eq.trans (jr_gf (v := .ref 21) jF_93_24 (by decide +kernel)) ?_
                                                      refine Eq.trans (jr_s (pc2 := 28) (lv2 := [(0, .ref 20), (1, .int 19), (2, .int a2)]) (st2 := [.int 19, .ref 21]) jF_93_27 rfl rfl) ?_
                                                      refine Eq.trans (jr_ldi (v := .int 0) jF_93_28 (by decide +kernel)) ?_
                                                      refine Eq.trans (jr_if0 jF_93_29 (by decide +kernel)) ?_
                                                      refine Eq.trans (jr_s (pc2 := 33) (lv2 := [(0, .ref 20), (1, .int 19), (2, .int a2)]) (st2 := [.int (-1)]) jF_93_32 rfl rfl) ?_
                                                      exact jr_ri jF_93_33 rfl
                                                    exact jr_ri jF_92_9 rfl
                                                  · refine Eq.trans (jr_s (pc2 := 1) (lv2 := [(0, .ref 117), (1, .int 19), (2, .int a2)]) (st2 := [.ref 117]) jF_266_0 rfl rfl) ?_
                                                    refine Eq.trans (jr_s (pc2 := 2) (lv2 := [(0, .ref 117), (1, .int 19), (2, .int a2)]) (st2 := [.int 19, .ref 117]) jF_266_1 rfl rfl) ?_
                                                    refine Eq.trans (jr_cV (a := 117) (as := [.int 19]) (rest := []) (v := some (.long 0)) (hp2 := jh2) (fr2 := 499) (lo2 := 19979) jF_266_2 (by decide +kernel) rfl (show j_cnd 500 20000 499 19979 2 _ _ = true from rfl) ?_) ?_
                                                    · refine Eq.trans (jr_s (pc2 := 1) (lv2 := [(0, .ref 117), (1, .int 19)]) (st2 := [.int 19]) jF_267_0 rfl rfl) ?_
                                                      refine Eq.trans (jr_s (pc2 := 2) (lv2 := [(0, .ref 117), (1, .int 19)]) (st2 := [.long 19]) jF_267_1 rfl rfl) ?_
                                                      refine Eq.trans (jr_s (pc2 := 3) (lv2 := [(0, .ref 117), (1, .int 19)]) (st2 := [.long 0, .long 19]) jF_267_2 rfl rfl) ?_
                                                      refine Eq.trans (jr_s (pc2 := 6) (lv2 := [(0, .ref 117), (1, .int 19)]) (st2 := [.long 17, .long 0, .long 19]) jF_267_3 rfl rfl) ?_
                                                      refine Eq.trans (jr_cS (as := [.long 19, .long 0, .long 17]) (rest := []) (v := some (.int 0)) (hp2 := jh2) (fr2 := 498) (lo2 := 19954) jF_267_6 rfl (show j_cnd 499 19979 498 19954 6 _ _ = true from rfl) ?_) ?_
                                                      · refine Eq.trans (jr_s (pc2 := 1) (lv2 := [(0, .long 19), (2, .long 0), (4, .long 17)]) (st2 := [.long 19]) jF_232_0 rfl rfl) ?_
                                                        refine Eq.trans (jr_s (pc2 := 2) (lv2 := [(0, .long 19), (2, .long 0), (4, .long 17)]) (st2 := [.long 0, .long 19]) jF_232_1 rfl rfl) ?_
                                                        refine Eq.trans (jr_s (pc2 := 3) (lv2 := [(0, .long 19), (2, .long 0), (4, .long 17)]) (st2 := [.int 1]) jF_232_2 rfl rfl) ?_
                                                        refine Eq.trans (jr_if0 jF_232_3 (by decide +kernel)) ?_
                                                        refine Eq.trans (jr_s (pc2 := 7) (lv2 := [(0, .long 19), (2, .long 0), (4, .long 17)]) (st2 := [.long 19]) jF_232_6 rfl rfl) ?_
                                                        refine Eq.trans (jr_s (pc2 := 9) (lv2 := [(0, .long 19), (2, .long 0), (4, .long 17)]) (st2 := [.long 17, .long 19]) jF_232_7 rfl rfl) ?_
                                                        refine Eq.trans (jr_s (pc2 := 10) (lv2 := [(0, .long 19), (2, .long 0), (4, .long 17)]) (st2 := [.int 1]) jF_232_9 rfl rfl) ?_
                                                        refine Eq.trans (jr_if1 jF_232_10 (by decide +kernel)) ?_
                                                        refine Eq.trans (jr_s (pc2 := 18) (lv2 := [(0, .long 19), (2, .long 0), (4, .long 17)]) (st2 := [.int 0]) jF_232_17 rfl rfl) ?_
                                                        exact jr_ri jF_232_18 rfl
                                                      refine Eq.trans (jr_if1 jF_267_9 (by decide +kernel)) ?_
                                                      refine Eq.trans (jr_s (pc2 := 23) (lv2 := [(0, .ref 117), (1, .int 19)]) (st2 := [.int 19]) jF_267_22 rfl rfl) ?_
                                                      refine Eq.trans (jr_s (pc2 := 25) (lv2 := [(0, .ref 117), (1, .int 19)]) (st2 := [.int 20, .int 19]) jF_267_23 rfl rfl) ?_
                                                      refine Eq.trans (jr_s (pc2 := 26) (lv2 := [(0, .ref 117), (1, .int 19)]) (st2 := [.int (-1)]) jF_267_25 rfl rfl) ?_
                                                      refine Eq.trans (jr_s (pc2 := 27) (lv2 := [(0, .ref 117), (1, .int 19)]) (st2 := [.long (-1)]) jF_267_26 rfl rfl) ?_
                                                      refine Eq.trans (jr_s (pc2 := 28) (lv2 := [(0, .ref 117), (1, .int 19)]) (st2 := [.long 0, .long (-1)]) jF_267_27 rfl rfl) ?_
                                                      refine Eq.trans (jr_s (pc2 := 29) (lv2 := [(0, .ref 117), (1, .int 19)]) (st2 := [.ref 117, .long 0, .long (-1)]) jF_267_28 rfl rfl) ?_
                                                      refine Eq.trans (jr_gf (v := .int 0) jF_267_29 (by decide +kernel)) ?_
                                                      refine Eq.trans (jr_s (pc2 := 33) (lv2 := [(0, .ref 117), (1, .int 19)]) (st2 := [.int 1, .int 0, .long 0, .long (-1)]) jF_267_32 rfl rfl) ?_
                                                      refine Eq.trans (jr_s (pc2 := 34) (lv2 := [(0, .ref 117), (1, .int 19)]) (st2 := [.int (-1), .long 0, .long (-1)]) jF_267_33 rfl rfl) ?_
                                                      refine Eq.trans (jr_s (pc2 := 35) (lv2 := [(0, .ref 117), (1, .int 19)]) (st2 := [.long (-1), .long 0, .long (-1)]) jF_267_34 rfl rfl) ?_
                                                      refine Eq.trans (jr_cS (as := [.long (-1), .long 0, .long (-1)]) (rest := []) (v := some (.int 0)) (hp2 := jh2) (fr2 := 498) (lo2 := 19954) jF_267_35 rfl (show j_cnd 499 19979 498 19954 6 _ _ = true from rfl) ?_) ?_
                                                      · refine Eq.trans (jr_s (pc2 := 1) (lv2 := [(0, .long (-1)), (2, .long 0), (4, .long (-1))]) (st2 := [.long (-1)]) jF_232_0 rfl rfl) ?_
                                                        refine Eq.trans (jr_s (pc2 := 2) (lv2 := [(0, .long (-1)), (2, .long 0), (4, .long (-1))]) (st2 := [.long 0, .long (-1)]) jF_232_1 rfl rfl) ?_
                                                        refine Eq.trans (jr_s (pc2 := 3) (lv2 := [(0, .long (-1)), (2, .long 0), (4, .long (-1))]) (st2 := [.int (-1)]) jF_232_2 rfl rfl) ?_
                                                        refine Eq.trans (jr_if1 jF_232_3 (by decide +kernel)) ?_
                                                        refine Eq.trans (jr_s (pc2 := 18) (lv2 := [(0, .long (-1)), (2, .long 0), (4, .long (-1))]) (st2 := [.int 0]) jF_232_17 rfl rfl) ?_
                                                        exact jr_ri jF_232_18 rfl
                                                      refine Eq.trans (jr_if1 jF_267_38 (by decide +kernel)) ?_
                                                      refine Eq.trans (jr_s (pc2 := 56) (lv2 := [(0, .ref 117), (1, .int 19)]) (st2 := [.long 0]) jF_267_55 rfl rfl) ?_
                                                      exact jr_rl jF_267_56
                                                    refine Eq.trans (jr_s (pc2 := 6) (lv2 := [(3, .long 0), (0, .ref 117), (1, .int 19), (2, .int a2)]) (st2 := []) jF_266_5 rfl rfl) ?_
                                                    refine Eq.trans (jr_s (pc2 := 7) (lv2 := [(3, .long 0), (0, .ref 117), (1, .int 19), (2, .int a2)]) (st2 := [.long 0]) jF_266_6 rfl rfl) ?_
                                                    refine Eq.trans (jr_s (pc2 := 8) (lv2 := [(3, .long 0), (0, .ref 117), (1, .int 19), (2, .int a2)]) (st2 := [.long 0, .long 0]) jF_266_7 rfl rfl) ?_
                                                    refine Eq.trans (jr_s (pc2 := 9) (lv2 := [(3, .long 0), (0, .ref 117), (1, .int 19), (2, .int a2)]) (st2 := [.int 0]) jF_266_8 rfl rfl) ?_
                                                    refine Eq.trans (jr_if1 jF_266_9 (by decide +kernel)) ?_
                                                    refine Eq.trans (jr_s (pc2 := 25) (lv2 := [(3, .long 0), (0, .ref 117), (1, .int 19), (2, .int a2)]) (st2 := [.int (-1)]) jF_266_24 rfl rfl) ?_
                                                    exact jr_ri jF_266_25 rfl
                                                · rcases j_ilt a1.toInt 21 with h_a1_21 | h_a1_21
                                                  · obtain rfl : a1 = 20 := Int32.toInt_inj.mp (by rw [show (20 : Int32).toInt = 20 from by decide]; omega)
                                                    refine ⟨60000, 60000, (-1), jh2, jh2, ?_, ?_, by decide +kernel⟩
                                                    · refine Eq.trans (jr_s (pc2 := 1) (lv2 := [(0, .ref 9), (1, .int 20), (2, .int a2)]) (st2 := [.ref 9]) jF_92_0 rfl rfl) ?_
                                                      refine Eq.trans (jr_gf (v := .ref 20) jF_92_1 (by decide +kernel)) ?_
                                                      refine Eq.trans (jr_s (pc2 := 5) (lv2 := [(0, .ref 9), (1, .int 20), (2, .int a2)]) (st2 := [.int 20, .ref 20]) jF_92_4 rfl rfl) ?_
                                                      refine Eq.trans (jr_s (pc2 := 6) (lv2 := [(0, .ref 9), (1, .int 20), (2, .int a2)]) (st2 := [.int a2, .int 20, .ref 20]) jF_92_5 rfl rfl) ?_
                                                      refine Eq.trans (jr_cV (a := 20) (as := [.int 20, .int a2]) (rest := []) (v := some (.int (-1))) (hp2 := jh2) (fr2 := 499) (lo2 := 19978) jF_92_6 (by decide +kernel) rfl (show j_cnd 500 20000 499 19978 3 _ _ = true from rfl) ?_) ?_
                                                      · refine Eq.trans (jr_s (pc2 := 1) (lv2 := [(0, .ref 20), (1, .int 20), (2, .int a2)]) (st2 := [.int 20]) jF_93_0 rfl rfl) ?_
                                                        refine Eq.trans (jr_if0 jF_93_1 (by decide +kernel)) ?_
                                                        refine Eq.trans (jr_s (pc2 := 5) (lv2 := [(0, .ref 20), (1, .int 20), (2, .int a2)]) (st2 := [.int 20]) jF_93_4 rfl rfl) ?_
                                                        refine Eq.trans (jr_s (pc2 := 6) (lv2 := [(0, .ref 20), (1, .int 20), (2, .int a2)]) (st2 := [.ref 20, .int 20]) jF_93_5 rfl rfl) ?_
                                                        refine Eq.trans (jr_gf (v := .ref 21) jF_93_6 (by decide +kernel)) ?_
                                                        refine Eq.trans (jr_al (v := 25) jF_93_9 (by decide +kernel)) ?_
                                                        refine Eq.trans (jr_ic0 jF_93_10 (by decide +kernel)) ?_
                                                        refine Eq.trans (jr_s (pc2 := 14) (lv2 := [(0, .ref 20), (1, .int 20), (2, .int a2)]) (st2 := [.int a2]) jF_93_13 rfl rfl) ?_
                                                        refine Eq.trans (jr_if0 jF_93_14 (jk_lt_ge (show (0 : Int32).toInt ≤ (a2 : Int32).toInt by rw [show (0 : Int32).toInt = 0 from by decide]; omega))) ?_
                                                        refine Eq.trans (jr_s (pc2 := 18) (lv2 := [(0, .ref 20), (1, .int 20), (2, .int a2)]) (st2 := [.int a2]) jF_93_17 rfl rfl) ?_
                                                        refine Eq.trans (jr_s (pc2 := 20) (lv2 := [(0, .ref 20), (1, .int 20), (2, .int a2)]) (st2 := [.int 6, .int a2]) jF_93_18 rfl rfl) ?_
                                                        refine Eq.trans (jr_ic0 jF_93_20 (jk_ge_lt (show (a2 : Int32).toInt < (6 : Int32).toInt by rw [show (6 : Int32).toInt = 6 from by decide]; omega))) ?_
                                                        refine Eq.trans (jr_s (pc2 := 24) (lv2 := [(0, .ref 20), (1, .int 20), (2, .int a2)]) (st2 := [.ref 20]) jF_93_23 rfl rfl) ?_
                                                        refine Eq.trans (jr_gf (v := .ref 21) jF_93_24 (by decide +kernel)) ?_
                                                        refine Eq.trans (jr_s (pc2 := 28) (lv2 := [(0, .ref 20), (1, .int 20), (2, .int a2)]) (st2 := [.int 20, .ref 21]) jF_93_27 rfl rfl) ?_
                                                        refine Eq.trans (jr_ldi (v := .int 0) jF_93_28 (by decide +kernel)) ?_
                                                        refine Eq.trans (jr_if0 jF_93_29 (by decide +kernel)) ?_
                                                        refine Eq.trans (jr_s (pc2 := 33) (lv2 := [(0, .ref 20), (1, .int 20), (2, .int a2)]) (st2 := [.int (-1)]) jF_93_32 rfl rfl) ?_
                                                        exact jr_ri jF_93_33 rfl
                                                      exact jr_ri jF_92_9 rfl
                                                    · refine Eq.trans (jr_s (pc2 := 1) (lv2 := [(0, .ref 117), (1, .int 20), (2, .int a2)]) (st2 := [.ref 117]) jF_266_0 rfl rfl) ?_
                                                      refine Eq.trans (jr_s (pc2 := 2) (lv2 := [(0, .ref 117), (1, .int 20), (2, .int a2)]) (st2 := [.int 20, .ref 117]) jF_266_1 rfl rfl) ?_
                                                      refine Eq.trans (jr_cV (a := 117) (as := [.int 20]) (rest := []) (v := some (.long 0)) (hp2 := jh2) (fr2 := 499) (lo2 := 19979) jF_266_2 (by decide +kernel) rfl (show j_cnd 500 20000 499 19979 2 _ _ = true from rfl) ?_) ?_
                                                      · refine Eq.trans (jr_s (pc2 := 1) (lv2 := [(0, .ref 117), (1, .int 20)]) (st2 := [.int 20]) jF_267_0 rfl rfl) ?_
                                                        refine Eq.trans (jr_s (pc2 := 2) (lv2 := [(0, .ref 117), (1, .int 20)]) (st2 := [.long 20]) jF_267_1 rfl rfl) ?_
                                                        refine Eq.trans (jr_s (pc2 := 3) (lv2 := [(0, .ref 117), (1, .int 20)]) (st2 := [.long 0, .long 20]) jF_267_2 rfl rfl) ?_
                                                        refine Eq.trans (jr_s (pc2 := 6) (lv2 := [(0, .ref 117), (1, .int 20)]) (st2 := [.long 17, .long 0, .long 20]) jF_267_3 rfl rfl) ?_
                                                        refine Eq.trans (jr_cS (as := [.long 20, .long 0, .long 17]) (rest := []) (v := some (.int 0)) (hp2 := jh2) (fr2 := 498) (lo2 := 19954) jF_267_6 rfl (show j_cnd 499 19979 498 19954 6 _ _ = true from rfl) ?_) ?_
                                                        · refine Eq.trans (jr_s (pc2 := 1) (lv2 := [(0, .long 20), (2, .long 0), (4, .long 17)]) (st2 := [.long 20]) jF_232_0 rfl rfl) ?_
                                                          refine Eq.trans (jr_s (pc2 := 2) (lv2 := [(0, .long 20), (2, .long 0), (4, .long 17)]) (st2 := [.long 0, .long 20]) jF_232_1 rfl rfl) ?_
                                                          refine Eq.trans (jr_s (pc2 := 3) (lv2 := [(0, .long 20), (2, .long 0), (4, .long 17)]) (st2 := [.int 1]) jF_232_2 rfl rfl) ?_
                                                          refine Eq.trans (jr_if0 jF_232_3 (by decide +kernel)) ?_
                                                          refine Eq.trans (jr_s (pc2 := 7) (lv2 := [(0, .long 20), (2, .long 0), (4, .long 17)]) (st2 := [.long 20]) jF_232_6 rfl rfl) ?_
                                                          refine Eq.trans (jr_s (pc2 := 9) (lv2 := [(0, .long 20), (2, .long 0), (4, .long 17)]) (st2 := [.long 17, .long 20]) jF_232_7 rfl rfl) ?_
                                                          refine Eq.trans (jr_s (pc2 := 10) (lv2 := [(0, .long 20), (2, .long 0), (4, .long 17)]) (st2 := [.int 1]) jF_232_9 rfl rfl) ?_
                                                          refine Eq.trans (jr_if1 jF_232_10 (by decide +kernel)) ?_
                                                          refine Eq.trans (jr_s (pc2 := 18) (lv2 := [(0, .long 20), (2, .long 0), (4, .long 17)]) (st2 := [.int 0]) jF_232_17 rfl rfl) ?_
                                                          exact jr_ri jF_232_18 rfl
                                                        refine Eq.trans (jr_if1 jF_267_9 (by decide +kernel)) ?_
                                                        refine Eq.trans (jr_s (pc2 := 23) (lv2 := [(0, .ref 117), (1, .int 20)]) (st2 := [.int 20]) jF_267_22 rfl rfl) ?_
                                                        refine Eq.trans (jr_s (pc2 := 25) (lv2 := [(0, .ref 117), (1, .int 20)]) (st2 := [.int 20, .int 20]) jF_267_23 rfl rfl) ?_
                                                        refine Eq.trans (jr_s (pc2 := 26) (lv2 := [(0, .ref 117), (1, .int 20)]) (st2 := [.int 0]) jF_267_25 rfl rfl) ?_
                                                        refine Eq.trans (jr_s (pc2 := 27) (lv2 := [(0, .ref 117), (1, .int 20)]) (st2 := [.long 0]) jF_267_26 rfl rfl) ?_
                                                        refine Eq.trans (jr_s (pc2 := 28) (lv2 := [(0, .ref 117), (1, .int 20)]) (st2 := [.long 0, .long 0]) jF_267_27 rfl rfl) ?_
                                                        refine Eq.trans (jr_s (pc2 := 29) (lv2 := [(0, .ref 117), (1, .int 20)]) (st2 := [.ref 117, .long 0, .long 0]) jF_267_28 rfl rfl) ?_
                                                        refine Eq.trans (jr_gf (v := .int 0) jF_267_29 (by decide +kernel)) ?_
                                                        refine Eq.trans (jr_s (pc2 := 33) (lv2 := [(0, .ref 117), (1, .int 20)]) (st2 := [.int 1, .int 0, .long 0, .long 0]) jF_267_32 rfl rfl) ?_
                                                        refine Eq.trans (jr_s (pc2 := 34) (lv2 := [(0, .ref 117), (1, .int 20)]) (st2 := [.int (-1), .long 0, .long 0]) jF_267_33 rfl rfl) ?_
                                                        refine Eq.trans (jr_s (pc2 := 35) (lv2 := [(0, .ref 117), (1, .int 20)]) (st2 := [.long (-1), .long 0, .long 0]) jF_267_34 rfl rfl) ?_
                                                        refine Eq.trans (jr_cS (as := [.long 0, .long 0, .long (-1)]) (rest := []) (v := some (.int 0)) (hp2 := jh2) (fr2 := 498) (lo2 := 19954) jF_267_35 rfl (show j_cnd 499 19979 498 19954 6 _ _ = true from rfl) ?_) ?_
                                                        · refine Eq.trans (jr_s (pc2 := 1) (lv2 := [(0, .long 0), (2, .long 0), (4, .long (-1))]) (st2 := [.long 0]) jF_232_0 rfl rfl) ?_
                                                          refine Eq.trans (jr_s (pc2 := 2) (lv2 := [(0, .long 0), (2, .long 0), (4, .long (-1))]) (st2 := [.long 0, .long 0]) jF_232_1 rfl rfl) ?_
                                                          refine Eq.trans (jr_s (pc2 := 3) (lv2 := [(0, .long 0), (2, .long 0), (4, .long (-1))]) (st2 := [.int 0]) jF_232_2 rfl rfl) ?_
                                                          refine Eq.trans (jr_if0 jF_232_3 (by decide +kernel)) ?_
                                                          refine Eq.trans (jr_s (pc2 := 7) (lv2 := [(0, .long 0), (2, .long 0), (4, .long (-1))]) (st2 := [.long 0]) jF_232_6 rfl rfl) ?_
                                                          refine Eq.trans (jr_s (pc2 := 9) (lv2 := [(0, .long 0), (2, .long 0), (4, .long (-1))]) (st2 := [.long (-1), .long 0]) jF_232_7 rfl rfl) ?_
                                                          refine Eq.trans (jr_s (pc2 := 10) (lv2 := [(0, .long 0), (2, .long 0), (4, .long (-1))]) (st2 := [.int 1]) jF_232_9 rfl rfl) ?_
                                                          refine Eq.trans (jr_if1 jF_232_10 (by decide +kernel)) ?_
                                                          refine Eq.trans (jr_s (pc2 := 18) (lv2 := [(0, .long 0), (2, .long 0), (4, .long (-1))]) (st2 := [.int 0]) jF_232_17 rfl rfl) ?_
                                                          exact jr_ri jF_232_18 rfl
                                                        refine Eq.trans (jr_if1 jF_267_38 (by decide +kernel)) ?_
                                                        refine Eq.trans (jr_s (pc2 := 56) (lv2 := [(0, .ref 117), (1, .int 20)]) (st2 := [.long 0]) jF_267_55 rfl rfl) ?_
                                                        exact jr_rl jF_267_56
                                                      refine Eq.trans (jr_s (pc2 := 6) (lv2 := [(3, .long 0), (0, .ref 117), (1, .int 20), (2, .int a2)]) (st2 := []) jF_266_5 rfl rfl) ?_
                                                      refine Eq.trans (jr_s (pc2 := 7) (lv2 := [(3, .long 0), (0, .ref 117), (1, .int 20), (2, .int a2)]) (st2 := [.long 0]) jF_266_6 rfl rfl) ?_
                                                      refine Eq.trans (jr_s (pc2 := 8) (lv2 := [(3, .long 0), (0, .ref 117), (1, .int 20), (2, .int a2)]) (st2 := [.long 0, .long 0]) jF_266_7 rfl rfl) ?_
                                                      refine Eq.trans (jr_s (pc2 := 9) (lv2 := [(3, .long 0), (0, .ref 117), (1, .int 20), (2, .int a2)]) (st2 := [.int 0]) jF_266_8 rfl rfl) ?_
                                                      refine Eq.trans (jr_if1 jF_266_9 (by decide +kernel)) ?_
                                                      refine Eq.trans (jr_s (pc2 := 25) (lv2 := [(3, .long 0), (0, .ref 117), (1, .int 20), (2, .int a2)]) (st2 := [.int (-1)]) jF_266_24 rfl rfl) ?_
                                                      exact jr_ri jF_266_25 rfl
                                                  · rcases j_ilt a1.toInt 22 with h_a1_22 | h_a1_22
                                                    · obtain rfl : a1 = 21 := Int32.toInt_inj.mp (by rw [show (21 : Int32).toInt = 21 from by decide]; omega)
                                                      refine ⟨60000, 60000, (-1), jh2, jh2, ?_, ?_, by decide +kernel⟩
                                                      · refine Eq.trans (jr_s (pc2 := 1) (lv2 := [(0, .ref 9), (1, .int 21), (2, .int a2)]) (st2 := [.ref 9]) jF_92_0 rfl rfl) ?_
                                                        refine Eq.trans (jr_gf (v := .ref 20) jF_92_1 (by decide +kernel)) ?_
                                                        refine Eq.trans (jr_s (pc2 := 5) (lv2 := [(0, .ref 9), (1, .int 21), (2, .int a2)]) (st2 := [.int 21, .ref 20]) jF_92_4 rfl rfl) ?_
                                                        refine Eq.trans (jr_s (pc2 := 6) (lv2 := [(0, .ref 9), (1, .int 21), (2, .int a2)]) (st2 := [.int a2, .int 21, .ref 20]) jF_92_5 rfl rfl) ?_
                                                        refine Eq.trans (jr_cV (a := 20) (as := [.int 21, .int a2]) (rest := []) (v := some (.int (-1))) (hp2 := jh2) (fr2 := 499) (lo2 := 19978) jF_92_6 (by decide +kernel) rfl (show j_cnd 500 20000 499 19978 3 _ _ = true from rfl) ?_) ?_
                                                        · refine Eq.trans (jr_s (pc2 := 1) (lv2 := [(0, .ref 20), (1, .int 21), (2, .int a2)]) (st2 := [.int 21]) jF_93_0 rfl rfl) ?_
                                                          refine Eq.trans (jr_if0 jF_93_1 (by decide +kernel)) ?_
                                                          refine Eq.trans (jr_s (pc2 := 5) (lv2 := [(0, .ref 20), (1, .int 21), (2, .int a2)]) (st2 := [.int 21]) jF_93_4 rfl rfl) ?_
                                                          refine Eq.trans (jr_s (pc2 := 6) (lv2 := [(0, .ref 20), (1, .int 21), (2, .int a2)]) (st2 := [.ref 20, .int 21]) jF_93_5 rfl rfl) ?_
                                                          refine Eq.trans (jr_gf (v := .ref 21) jF_93_6 (by decide +kernel)) ?_
                                                          refine Eq.trans (jr_al (v := 25) jF_93_9 (by decide +kernel)) ?_
                                                          refine Eq.trans (jr_ic0 jF_93_10 (by decide +kernel)) ?_
                                                          refine Eq.trans (jr_s (pc2 := 14) (lv2 := [(0, .ref 20), (1, .int 21), (2, .int a2)]) (st2 := [.int a2]) jF_93_13 rfl rfl) ?_
                                                          refine Eq.trans (jr_if0 jF_93_14 (jk_lt_ge (show (0 : Int32).toInt ≤ (a2 : Int32).toInt by rw [show (0 : Int32).toInt = 0 from by decide]; omega))) ?_
                                                          refine Eq.trans (jr_s (pc2 := 18) (lv2 := [(0, .ref 20), (1, .int 21), (2, .int a2)]) (st2 := [.int a2]) jF_93_17 rfl rfl) ?_
                                                          refine Eq.trans (jr_s (pc2 := 20) (lv2 := [(0, .ref 20), (1, .int 21), (2, .int a2)]) (st2 := [.int 6, .int a2]) jF_93_18 rfl rfl) ?_
                                                          refine Eq.trans (jr_ic0 jF_93_20 (jk_ge_lt (show (a2 : Int32).toInt < (6 : Int32).toInt by rw [show (6 : Int32).toInt = 6 from by decide]; omega))) ?_
                                                          refine Eq.trans (jr_s (pc2 := 24) (lv2 := [(0, .ref 20), (1, .int 21), (2, .int a2)]) (st2 := [.ref 20]) jF_93_23 rfl rfl) ?_
                                                          refine Eq.trans (jr_gf (v := .ref 21) jF_93_24 (by decide +kernel)) ?_
                                                          refine Eq.trans (jr_s (pc2 := 28) (lv2 := [(0, .ref 20), (1, .int 21), (2, .int a2)]) (st2 := [.int 21, .ref 21]) jF_93_27 rfl rfl) ?_
                                                          refine Eq.trans (jr_ldi (v := .int 0) jF_93_28 (by decide +kernel)) ?_
                                                          refine Eq.trans (jr_if0 jF_93_29 (by decide +kernel)) ?_
                                                          refine Eq.trans (jr_s (pc2 := 33) (lv2 := [(0, .ref 20), (1, .int 21), (2, .int a2)]) (st2 := [.int (-1)]) jF_93_32 rfl rfl) ?_
                                                          exact jr_ri jF_93_33 rfl
                                                        exact jr_ri jF_92_9 rfl
                                                      · refine Eq.trans (jr_s (pc2 := 1) (lv2 := [(0, .ref 117), (1, .int 21), (2, .int a2)]) (st2 := [.ref 117]) jF_266_0 rfl rfl) ?_
                                                        refine Eq.trans (jr_s (pc2 := 2) (lv2 := [(0, .ref 117), (1, .int 21), (2, .int a2)]) (st2 := [.int 21, .ref 117]) jF_266_1 rfl rfl) ?_
                                                        refine Eq.trans (jr_cV (a := 117) (as := [.int 21]) (rest := []) (v := some (.long 0)) (hp2 := jh2) (fr2 := 499) (lo2 := 19979) jF_266_2 (by decide +kernel) rfl (show j_cnd 500 20000 499 19979 2 _ _ = true from rfl) ?_) ?_
                                                        · refine Eq.trans (jr_s (pc2 := 1) (lv2 := [(0, .ref 117), (1, .int 21)]) (st2 := [.int 21]) jF_267_0 rfl rfl) ?_
                                                          refine Eq.trans (jr_s (pc2 := 2) (lv2 := [(0, .ref 117), (1, .int 21)]) (st2 := [.long 21]) jF_267_1 rfl rfl) ?_
                                                          refine Eq.trans (jr_s (pc2 := 3) (lv2 := [(0, .ref 117), (1, .int 21)]) (st2 := [.long 0, .long 21]) jF_267_2 rfl rfl) ?_
                                                          refine Eq.trans (jr_s (pc2 := 6) (lv2 := [(0, .ref 117), (1, .int 21)]) (st2 := [.long 17, .long 0, .long 21]) jF_267_3 rfl rfl) ?_
                                                          refine Eq.trans (jr_cS (as := [.long 21, .long 0, .long 17]) (rest := []) (v := some (.int 0)) (hp2 := jh2) (fr2 := 498) (lo2 := 19954) jF_267_6 rfl (show j_cnd 499 19979 498 19954 6 _ _ = true from rfl) ?_) ?_
                                                          · refine Eq.trans (jr_s (pc2 := 1) (lv2 := [(0, .long 21), (2, .long 0), (4, .long 17)]) (st2 := [.long 21]) jF_232_0 rfl rfl) ?_
                                                            refine Eq.trans (jr_s (pc2 := 2) (lv2 := [(0, .long 21), (2, .long 0), (4, .long 17)]) (st2 := [.long 0, .long 21]) jF_232_1 rfl rfl) ?_
                                                            refine Eq.trans (jr_s (pc2 := 3) (lv2 := [(0, .long 21), (2, .long 0), (4, .long 17)]) (st2 := [.int 1]) jF_232_2 rfl rfl) ?_
                                                            refine Eq.trans (jr_if0 jF_232_3 (by decide +kernel)) ?_
                                                            refine Eq.trans (jr_s (pc2 := 7) (lv2 := [(0, .long 21), (2, .long 0), (4, .long 17)]) (st2 := [.long 21]) jF_232_6 rfl rfl) ?_
                                                            refine Eq.trans (jr_s (pc2 := 9) (lv2 := [(0, .long 21), (2, .long 0), (4, .long 17)]) (st2 := [.long 17, .long 21]) jF_232_7 rfl rfl) ?_
                                                            refine Eq.trans (jr_s (pc2 := 10) (lv2 := [(0, .long 21), (2, .long 0), (4, .long 17)]) (st2 := [.int 1]) jF_232_9 rfl rfl) ?_
                                                            refine Eq.trans (jr_if1 jF_232_10 (by decide +kernel)) ?_
                                                            refine Eq.trans (jr_s (pc2 := 18) (lv2 := [(0, .long 21), (2, .long 0), (4, .long 17)]) (st2 := [.int 0]) jF_232_17 rfl rfl) ?_
                                                            exact jr_ri jF_232_18 rfl
                                                          refine Eq.trans (jr_if1 jF_267_9 (by decide +kernel)) ?_
                                                          refine Eq.trans (jr_s (pc2 := 23) (lv2 := [(0, .ref 117), (1, .int 21)]) (st2 := [.int 21]) jF_267_22 rfl rfl) ?_
                                                          refine Eq.trans (jr_s (pc2 := 25) (lv2 := [(0, .ref 117), (1, .int 21)]) (st2 := [.int 20, .int 21]) jF_267_23 rfl rfl) ?_
                                                          refine Eq.trans (jr_s (pc2 := 26) (lv2 := [(0, .ref 117), (1, .int 21)]) (st2 := [.int 1]) jF_267_25 rfl rfl) ?_
                                                          refine Eq.trans (jr_s (pc2 := 27) (lv2 := [(0, .ref 117), (1, .int 21)]) (st2 := [.long 1]) jF_267_26 rfl rfl) ?_
                                                          refine Eq.trans (jr_s (pc2 := 28) (lv2 := [(0, .ref 117), (1, .int 21)]) (st2 := [.long 0, .long 1]) jF_267_27 rfl rfl) ?_
                                                          refine Eq.trans (jr_s (pc2 := 29) (lv2 := [(0, .ref 117), (1, .int 21)]) (st2 := [.ref 117, .long 0, .long 1]) jF_267_28 rfl rfl) ?_
                                                          refine Eq.trans (jr_gf (v := .int 0) jF_267_29 (by decide +kernel)) ?_
                                                          refine Eq.trans (jr_s (pc2 := 33) (lv2 := [(0, .ref 117), (1, .int 21)]) (st2 := [.int 1, .int 0, .long 0, .long 1]) jF_267_32 rfl rfl) ?_
                                                          refine Eq.trans (jr_s (pc2 := 34) (lv2 := [(0, .ref 117), (1, .int 21)]) (st2 := [.int (-1), .long 0, .long 1]) jF_267_33 rfl rfl) ?_
                                                          refine Eq.trans (jr_s (pc2 := 35) (lv2 := [(0, .ref 117), (1, .int 21)]) (st2 := [.long (-1), .long 0, .long 1]) jF_267_34 rfl rfl) ?_
                                                          refine Eq.trans (jr_cS (as := [.long 1, .long 0, .long (-1)]) (rest := []) (v := some (.int 0)) (hp2 := jh2) (fr2 := 498) (lo2 := 19954) jF_267_35 rfl (show j_cnd 499 19979 498 19954 6 _ _ = true from rfl) ?_) ?_
                                                          · refine Eq.trans (jr_s (pc2 := 1) (lv2 := [(0, .long 1), (2, .long 0), (4, .long (-1))]) (st2 := [.long 1]) jF_232_0 rfl rfl) ?_
                                                            refine Eq.trans (jr_s (pc2 := 2) (lv2 := [(0, .long 1), (2, .long 0), (4, .long (-1))]) (st2 := [.long 0, .long 1]) jF_232_1 rfl rfl) ?_
                                                            refine Eq.trans (jr_s (pc2 := 3) (lv2 := [(0, .long 1), (2, .long 0), (4, .long (-1))]) (st2 := [.int 1]) jF_232_2 rfl rfl) ?_
                                                            refine Eq.trans (jr_if0 jF_232_3 (by decide +kernel)) ?_
                                                            refine Eq.trans (jr_s (pc2 := 7) (lv2 := [(0, .long 1), (2, .long 0), (4, .long (-1))]) (st2 := [.long 1]) jF_232_6 rfl rfl) ?_
                                                            refine Eq.trans (jr_s (pc2 := 9) (lv2 := [(0, .long 1), (2, .long 0), (4, .long (-1))]) (st2 := [.long (-1), .long 1]) jF_232_7 rfl rfl) ?_
                                                            refine Eq.trans (jr_s (pc2 := 10) (lv2 := [(0, .long 1), (2, .long 0), (4, .long (-1))]) (st2 := [.int 1]) jF_232_9 rfl rfl) ?_
                                                            refine Eq.trans (jr_if1 jF_232_10 (by decide +kernel)) ?_
                                                            refine Eq.trans (jr_s (pc2 := 18) (lv2 := [(0, .long 1), (2, .long 0), (4, .long (-1))]) (st2 := [.int 0]) jF_232_17 rfl rfl) ?_
                                                            exact jr_ri jF_232_18 rfl
                                                          refine Eq.trans (jr_if1 jF_267_38 (by decide +kernel)) ?_
                                                          refine Eq.trans (jr_s (pc2 := 56) (lv2 := [(0, .ref 117), (1, .int 21)]) (st2 := [.long 0]) jF_267_55 rfl rfl) ?_
                                                          exact jr_rl jF_267_56
                                                        refine Eq.trans (jr_s (pc2 := 6) (lv2 := [(3, .long 0), (0, .ref 117), (1, .int 21), (2, .int a2)]) (st2 := []) jF_266_5 rfl rfl) ?_
                                                        refine Eq.trans (jr_s (pc2 := 7) (lv2 := [(3, .long 0), (0, .ref 117), (1, .int 21), (2, .int a2)]) (st2 := [.long 0]) jF_266_6 rfl rfl) ?_
                                                        refine Eq.trans (jr_s (pc2 := 8) (lv2 := [(3, .long 0), (0, .ref 117), (1, .int 21), (2, .int a2)]) (st2 := [.long 0, .long 0]) jF_266_7 rfl rfl) ?_
                                                        refine Eq.trans (jr_s (pc2 := 9) (lv2 := [(3, .long 0), (0, .ref 117), (1, .int 21), (2, .int a2)]) (st2 := [.int 0]) jF_266_8 rfl rfl) ?_
                                                        refine Eq.trans (jr_if1 jF_266_9 (by decide +kernel)) ?_
                                                        refine Eq.trans (jr_s (pc2 := 25) (lv2 := [(3, .long 0), (0, .ref 117), (1, .int 21), (2, .int a2)]) (st2 := [.int (-1)]) jF_266_24 rfl rfl) ?_
                                                        exact jr_ri jF_266_25 rfl
                                                    · rcases j_ilt a1.toInt 23 with h_a1_23 | h_a1_23
                                                      · obtain rfl : a1 = 22 := Int32.toInt_inj.mp (by rw [show (22 : Int32).toInt = 22 from by decide]; omega)
                                                        refine ⟨60000, 60000, (-1), jh2, jh2, ?_, ?_, by decide +kernel⟩
                                                        · refine Eq.trans (jr_s (pc2 := 1) (lv2 := [(0, .ref 9), (1, .int 22), (2, .int a2)]) (st2 := [.ref 9]) jF_92_0 rfl rfl) ?_
                                                          refine Eq.trans (jr_gf (v := .ref 20) jF_92_1 (by decide +kernel)) ?_
                                                          refine Eq.trans (jr_s (pc2 := 5) (lv2 := [(0, .ref 9), (1, .int 22), (2, .int a2)]) (st2 := [.int 22, .ref 20]) jF_92_4 rfl rfl) ?_
                                                          refine Eq.trans (jr_s (pc2 := 6) (lv2 := [(0, .ref 9), (1, .int 22), (2, .int a2)]) (st2 := [.int a2, .int 22, .ref 20]) jF_92_5 rfl rfl) ?_
                                                          refine Eq.trans (jr_cV (a := 20) (as := [.int 22, .int a2]) (rest := []) (v := some (.int (-1))) (hp2 := jh2) (fr2 := 499) (lo2 := 19978) jF_92_6 (by decide +kernel) rfl (show j_cnd 500 20000 499 19978 3 _ _ = true from rfl) ?_) ?_
                                                          · refine Eq.trans (jr_s (pc2 := 1) (lv2 := [(0, .ref 20), (1, .int 22), (2, .int a2)]) (st2 := [.int 22]) jF_93_0 rfl rfl) ?_
                                                            refine Eq.trans (jr_if0 jF_93_1 (by decide +kernel)) ?_
                                                            refine Eq.trans (jr_s (pc2 := 5) (lv2 := [(0, .ref 20), (1, .int 22), (2, .int a2)]) (st2 := [.int 22]) jF_93_4 rfl rfl) ?_
                                                            refine Eq.trans (jr_s (pc2 := 6) (lv2 := [(0, .ref 20), (1, .int 22), (2, .int a2)]) (st2 := [.ref 20, .int 22]) jF_93_5 rfl rfl) ?_
                                                            refine Eq.trans (jr_gf (v := .ref 21) jF_93_6 (by decide +kernel)) ?_
                                                            refine Eq.trans (jr_al (v := 25) jF_93_9 (by decide +kernel)) ?_
                                                            refine Eq.trans (jr_ic0 jF_93_10 (by decide +kernel)) ?_
                                                            refine Eq.trans (jr_s (pc2 := 14) (lv2 := [(0, .ref 20), (1, .int 22), (2, .int a2)]) (st2 := [.int a2]) jF_93_13 rfl rfl) ?_
                                                            refine Eq.trans (jr_if0 jF_93_14 (jk_lt_ge (show (0 : Int32).toInt ≤ (a2 : Int32).toInt by rw [show (0 : Int32).toInt = 0 from by decide]; omega))) ?_
                                                            refine Eq.trans (jr_s (pc2 := 18) (lv2 := [(0, .ref 20), (1, .int 22), (2, .int a2)]) (st2 := [.int a2]) jF_93_17 rfl rfl) ?_
                                                            refine Eq.trans (jr_s (pc2 := 20) (lv2 := [(0, .ref 20), (1, .int 22), (2, .int a2)]) (st2 := [.int 6, .int a2]) jF_93_18 rfl rfl) ?_
                                                            refine Eq.trans (jr_ic0 jF_93_20 (jk_ge_lt (show (a2 : Int32).toInt < (6 : Int32).toInt by rw [show (6 : Int32).toInt = 6 from by decide]; omega))) ?_
                                                            refine Eq.trans (jr_s (pc2 := 24) (lv2 := [(0, .ref 20), (1, .int 22), (2, .int a2)]) (st2 := [.ref 20]) jF_93_23 rfl rfl) ?_
                                                            refine Eq.trans (jr_gf (v := .ref 21) jF_93_24 (by decide +kernel)) ?_
                                                            refine Eq.trans (jr_s (pc2 := 28) (lv2 := [(0, .ref 20), (1, .int 22), (2, .int a2)]) (st2 := [.int 22, .ref 21]) jF_93_27 rfl rfl) ?_
                                                            refine Eq.trans (jr_ldi (v := .int 0) jF_93_28 (by decide +kernel)) ?_
                                                            refine Eq.trans (jr_if0 jF_93_29 (by decide +kernel)) ?_
                                                            refine Eq.trans (jr_s (pc2 := 33) (lv2 := [(0, .ref 20), (1, .int 22), (2, .int a2)]) (st2 := [.int (-1)]) jF_93_32 rfl rfl) ?_
                                                            exact jr_ri jF_93_33 rfl
                                                          exact jr_ri jF_92_9 rfl
                                                        · refine Eq.trans (jr_s (pc2 := 1) (lv2 := [(0, .ref 117), (1, .int 22), (2, .int a2)]) (st2 := [.ref 117]) jF_266_0 rfl rfl) ?_
                                                          refine Eq.trans (jr_s (pc2 := 2) (lv2 := [(0, .ref 117), (1, .int 22), (2, .int a2)]) (st2 := [.int 22, .ref 117]) jF_266_1 rfl rfl) ?_
                                                          refine Eq.trans (jr_cV (a := 117) (as := [.int 22]) (rest := []) (v := some (.long 0)) (hp2 := jh2) (fr2 := 499) (lo2 := 19979) jF_266_2 (by decide +kernel) rfl (show j_cnd 500 20000 499 19979 2 _ _ = true from rfl) ?_) ?_
                                                          · refine Eq.trans (jr_s (pc2 := 1) (lv2 := [(0, .ref 117), (1, .int 22)]) (st2 := [.int 22]) jF_267_0 rfl rfl) ?_
                                                            refine Eq.trans (jr_s (pc2 := 2) (lv2 := [(0, .ref 117), (1, .int 22)]) (st2 := [.long 22]) jF_267_1 rfl rfl) ?_
                                                            refine Eq.trans (jr_s (pc2 := 3) (lv2 := [(0, .ref 117), (1, .int 22)]) (st2 := [.long 0, .long 22]) jF_267_2 rfl rfl) ?_
                                                            refine Eq.trans (jr_s (pc2 := 6) (lv2 := [(0, .ref 117), (1, .int 22)]) (st2 := [.long 17, .long 0, .long 22]) jF_267_3 rfl rfl) ?_
                                                            refine Eq.trans (jr_cS (as := [.long 22, .long 0, .long 17]) (rest := []) (v := some (.int 0)) (hp2 := jh2) (fr2 := 498) (lo2 := 19954) jF_267_6 rfl (show j_cnd 499 19979 498 19954 6 _ _ = true from rfl) ?_) ?_
                                                            · refine Eq.trans (jr_s (pc2 := 1) (lv2 := [(0, .long 22), (2, .long 0), (4, .long 17)]) (st2 := [.long 22]) jF_232_0 rfl rfl) ?_
                                                              refine Eq.trans (jr_s (pc2 := 2) (lv2 := [(0, .long 22), (2, .long 0), (4, .long 17)]) (st2 := [.long 0, .long 22]) jF_232_1 rfl rfl) ?_
                                                              refine Eq.trans (jr_s (pc2 := 3) (lv2 := [(0, .long 22), (2, .long 0), (4, .long 17)]) (st2 := [.int 1]) jF_232_2 rfl rfl) ?_
                                                              refine Eq.trans (jr_if0 jF_232_3 (by decide +kernel)) ?_
                                                              refine Eq.trans (jr_s (pc2 := 7) (lv2 := [(0, .long 22), (2, .long 0), (4, .long 17)]) (st2 := [.long 22]) jF_232_6 rfl rfl) ?_
                                                              refine Eq.trans (jr_s (pc2 := 9) (lv2 := [(0, .long 22), (2, .long 0), (4, .long 17)]) (st2 := [.long 17, .long 22]) jF_232_7 rfl rfl) ?_
                                                              refine Eq.trans (jr_s (pc2 := 10) (lv2 := [(0, .long 22), (2, .long 0), (4, .long 17)]) (st2 := [.int 1]) jF_232_9 rfl rfl) ?_
                                                              refine Eq.trans (jr_if1 jF_232_10 (by decide +kernel)) ?_
                                                              refine Eq.trans (jr_s (pc2 := 18) (lv2 := [(0, .long 22), (2, .long 0), (4, .long 17)]) (st2 := [.int 0]) jF_232_17 rfl rfl) ?_
                                                              exact jr_ri jF_232_18 rfl
                                                            refine Eq.trans (jr_if1 jF_267_9 (by decide +kernel)) ?_
                                                            refine Eq.trans (jr_s (pc2 := 23) (lv2 := [(0, .ref 117), (1, .int 22)]) (st2 := [.int 22]) jF_267_22 rfl rfl) ?_
                                                            refine Eq.trans (jr_s (pc2 := 25) (lv2 := [(0, .ref 117), (1, .int 22)]) (st2 := [.int 20, .int 22]) jF_267_23 rfl rfl) ?_
                                                            refine Eq.trans (jr_s (pc2 := 26) (lv2 := [(0, .ref 117), (1, .int 22)]) (st2 := [.int 2]) jF_267_25 rfl rfl) ?_
                                                            refine Eq.trans (jr_s (pc2 := 27) (lv2 := [(0, .ref 117), (1, .int 22)]) (st2 := [.long 2]) jF_267_26 rfl rfl) ?_
                                                            refine Eq.trans (jr_s (pc2 := 28) (lv2 := [(0, .ref 117), (1, .int 22)]) (st2 := [.long 0, .long 2]) jF_267_27 rfl rfl) ?_
                                                            refine Eq.trans (jr_s (pc2 := 29) (lv2 := [(0, .ref 117), (1, .int 22)]) (st2 := [.ref 117, .long 0, .long 2]) jF_267_28 rfl rfl) ?_
                                                            refine Eq.trans (jr_gf (v := .int 0) jF_267_29 (by decide +kernel)) ?_
                                                            refine Eq.trans (jr_s (pc2 := 33) (lv2 := [(0, .ref 117), (1, .int 22)]) (st2 := [.int 1, .int 0, .long 0, .long 2]) jF_267_32 rfl rfl) ?_
                                                            refine Eq.trans (jr_s (pc2 := 34) (lv2 := [(0, .ref 117), (1, .int 22)]) (st2 := [.int (-1), .long 0, .long 2]) jF_267_33 rfl rfl) ?_
                                                            refine Eq.trans (jr_s (pc2 := 35) (lv2 := [(0, .ref 117), (1, .int 22)]) (st2 := [.long (-1), .long 0, .long 2]) jF_267_34 rfl rfl) ?_
                                                            refine Eq.trans (jr_cS (as := [.long 2, .long 0, .long (-1)]) (rest := []) (v := some (.int 0)) (hp2 := jh2) (fr2 := 498) (lo2 := 19954) jF_267_35 rfl (show j_cnd 499 19979 498 19954 6 _ _ = true from rfl) ?_) ?_
                                                            · refine Eq.trans (jr_s (pc2 := 1) (lv2 := [(0, .long 2), (2, .long 0), (4, .long (-1))]) (st2 := [.long 2]) jF_232_0 rfl rfl) ?_
                                                              refine Eq.trans (jr_s (pc2 := 2) (lv2 := [(0, .long 2), (2, .long 0), (4, .long (-1))]) (st2 := [.long 0, .long 2]) jF_232_1 rfl rfl) ?_
                                                              refine Eq.trans (jr_s (pc2 := 3) (lv2 := [(0, .long 2), (2, .long 0), (4, .long (-1))]) (st2 := [.int 1]) jF_232_2 rfl rfl) ?_
                                                              refine Eq.trans (jr_if0 jF_232_3 (by decide +kernel)) ?_
                                                              refine Eq.trans (jr_s (pc2 := 7) (lv2 := [(0, .long 2), (2, .long 0), (4, .long (-1))]) (st2 := [.long 2]) jF_232_6 rfl rfl) ?_
                                                              refine Eq.trans (jr_s (pc2 := 9) (lv2 := [(0, .long 2), (2, .long 0), (4, .long (-1))]) (st2 := [.long (-1), .long 2]) jF_232_7 rfl rfl) ?_
                                                              refine Eq.trans (jr_s (pc2 := 10) (lv2 := [(0, .long 2), (2, .long 0), (4, .long (-1))]) (st2 := [.int 1]) jF_232_9 rfl rfl) ?_
                                                              refine Eq.trans (jr_if1 jF_232_10 (by decide +kernel)) ?_
                                                              refine Eq.trans (jr_s (pc2 := 18) (lv2 := [(0, .long 2), (2, .long 0), (4, .long (-1))]) (st2 := [.int 0]) jF_232_17 rfl rfl) ?_
                                                              exact jr_ri jF_232_18 rfl
                                                            refine Eq.trans (jr_if1 jF_267_38 (by decide +kernel)) ?_
                                                            refine Eq.trans (jr_s (pc2 := 56) (lv2 := [(0, .ref 117), (1, .int 22)]) (st2 := [.long 0]) jF_267_55 rfl rfl) ?_
                                                            exact jr_rl jF_267_56
                                                          refine Eq.trans (jr_s (pc2 := 6) (lv2 := [(3, .long 0), (0, .ref 117), (1, .int 22), (2, .int a2)]) (st2 := []) jF_266_5 rfl rfl) ?_
                                                          refine Eq.trans (jr_s (pc2 := 7) (lv2 := [(3, .long 0), (0, .ref 117), (1, .int 22), (2, .int a2)]) (st2 := [.long 0]) jF_266_6 rfl rfl) ?_
                                                          refine Eq.trans (jr_s (pc2 := 8) (lv2 := [(3, .long 0), (0, .ref 117), (1, .int 22), (2, .int a2)]) (st2 := [.long 0, .long 0]) jF_266_7 rfl rfl) ?_
                                                          refine Eq.trans (jr_s (pc2 := 9) (lv2 := [(3, .long 0), (0, .ref 117), (1, .int 22), (2, .int a2)]) (st2 := [.int 0]) jF_266_8 rfl rfl) ?_
                                                          refine Eq.trans (jr_if1 jF_266_9 (by decide +kernel)) ?_
                                                          refine Eq.trans (jr_s (pc2 := 25) (lv2 := [(3, .long 0), (0, .ref 117), (1, .int 22), (2, .int a2)]) (st2 := [.int (-1)]) jF_266_24 rfl rfl) ?_
                                                          exact jr_ri jF_266_25 rfl
                                                      · rcases j_ilt a1.toInt 24 with h_a1_24 | h_a1_24
                                                        · obtain rfl : a1 = 23 := Int32.toInt_inj.mp (by rw [show (23 : Int32).toInt = 23 from by decide]; omega)
                                                          refine ⟨60000, 60000, (-1), jh2, jh2, ?_, ?_, by decide +kernel⟩
                                                          · refine Eq.trans (jr_s (pc2 := 1) (lv2 := [(0, .ref 9), (1, .int 23), (2, .int a2)]) (st2 := [.ref 9]) jF_92_0 rfl rfl) ?_
                                                            refine Eq.trans (jr_gf (v := .ref 20) jF_92_1 (by decide +kernel)) ?_
                                                            refine Eq.trans (jr_s (pc2 := 5) (lv2 := [(0, .ref 9), (1, .int 23), (2, .int a2)]) (st2 := [.int 23, .ref 20]) jF_92_4 rfl rfl) ?_
                                                            refine Eq.trans (jr_s (pc2 := 6) (lv2 := [(0, .ref 9), (1, .int 23), (2, .int a2)]) (st2 := [.int a2, .int 23, .ref 20]) jF_92_5 rfl rfl) ?_
                                                            refine Eq.trans (jr_cV (a := 20) (as := [.int 23, .int a2]) (rest := []) (v := some (.int (-1))) (hp2 := jh2) (fr2 := 499) (lo2 := 19978) jF_92_6 (by decide +kernel) rfl (show j_cnd 500 20000 499 19978 3 _ _ = true from rfl) ?_) ?_
                                                            · refine Eq.trans (jr_s (pc2 := 1) (lv2 := [(0, .ref 20), (1, .int 23), (2, .int a2)]) (st2 := [.int 23]) jF_93_0 rfl rfl) ?_
                                                              refine Eq.trans (jr_if0 jF_93_1 (by decide +kernel)) ?_
                                                              refine Eq.trans (jr_s (pc2 := 5) (lv2 := [(0, .ref 20), (1, .int 23), (2, .int a2)]) (st2 := [.int 23]) jF_93_4 rfl rfl) ?_
                                                              refine Eq.trans (jr_s (pc2 := 6) (lv2 := [(0, .ref 20), (1, .int 23), (2, .int a2)]) (st2 := [.ref 20, .int 23]) jF_93_5 rfl rfl) ?_
                                                              refine Eq.trans (jr_gf (v := .ref 21) jF_93_6 (by decide +kernel)) ?_
                                                              refine Eq.trans (jr_al (v := 25) jF_93_9 (by decide +kernel)) ?_
                                                              refine Eq.trans (jr_ic0 jF_93_10 (by decide +kernel)) ?_
                                                              refine Eq.trans (jr_s (pc2 := 14) (lv2 := [(0, .ref 20), (1, .int 23), (2, .int a2)]) (st2 := [.int a2]) jF_93_13 rfl rfl) ?_
                                                              refine Eq.trans (jr_if0 jF_93_14 (jk_lt_ge (show (0 : Int32).toInt ≤ (a2 : Int32).toInt by rw [show (0 : Int32).toInt = 0 from by decide]; omega))) ?_
                                                              refine Eq.trans (jr_s (pc2 := 18) (lv2 := [(0, .ref 20), (1, .int 23), (2, .int a2)]) (st2 := [.int a2]) jF_93_17 rfl rfl) ?_
                                                              refine Eq.trans (jr_s (pc2 := 20) (lv2 := [(0, .ref 20), (1, .int 23), (2, .int a2)]) (st2 := [.int 6, .int a2]) jF_93_18 rfl rfl) ?_
                                                              refine Eq.trans (jr_ic0 jF_93_20 (jk_ge_lt (show (a2 : Int32).toInt < (6 : Int32).toInt by rw [show (6 : Int32).toInt = 6 from by decide]; omega))) ?_
                                                              refine Eq.trans (jr_s (pc2 := 24) (lv2 := [(0, .ref 20), (1, .int 23), (2, .int a2)]) (st2 := [.ref 20]) jF_93_23 rfl rfl) ?_
                                                              refine Eq.trans (jr_gf (v := .ref 21) jF_93_24 (by decide +kernel)) ?_
                                                              refine Eq.trans (jr_s (pc2 := 28) (lv2 := [(0, .ref 20), (1, .int 23), (2, .int a2)]) (st2 := [.int 23, .ref 21]) jF_93_27 rfl rfl) ?_
                                                              refine Eq.trans (jr_ldi (v := .int 0) jF_93_28 (by decide +kernel)) ?_
                                                              refine Eq.trans (jr_if0 jF_93_29 (by decide +kernel)) ?_
                                                              refine Eq.trans (jr_s (pc2 := 33) (lv2 := [(0, .ref 20), (1, .int 23), (2, .int a2)]) (st2 := [.int (-1)]) jF_93_32 rfl rfl) ?_
                                                              exact jr_ri jF_93_33 rfl
                                                            exact jr_ri jF_92_9 rfl
                                                          · refine Eq.trans (jr_s (pc2 := 1) (lv2 := [(0, .ref 117), (1, .int 23), (2, .int a2)]) (st2 := [.ref 117]) jF_266_0 rfl rfl) ?_
                                                            refine Eq.trans (jr_s (pc2 := 2) (lv2 := [(0, .ref 117), (1, .int 23), (2, .int a2)]) (st2 := [.int 23, .ref 117]) jF_266_1 rfl rfl) ?_
                                                            refine Eq.trans (jr_cV (a := 117) (as := [.int 23]) (rest := []) (v := some (.long 0)) (hp2 := jh2) (fr2 := 499) (lo2 := 19979) jF_266_2 (by decide +kernel) rfl (show j_cnd 500 20000 499 19979 2 _ _ = true from rfl) ?_) ?_
                                                            · refine Eq.trans (jr_s (pc2 := 1) (lv2 := [(0, .ref 117), (1, .int 23)]) (st2 := [.int 23]) jF_267_0 rfl rfl) ?_
                                                              refine Eq.trans (jr_s (pc2 := 2) (lv2 := [(0, .ref 117), (1, .int 23)]) (st2 := [.long 23]) jF_267_1 rfl rfl) ?_
                                                              refine Eq.trans (jr_s (pc2 := 3) (lv2 := [(0, .ref 117), (1, .int 23)]) (st2 := [.long 0, .long 23]) jF_267_2 rfl rfl) ?_
                                                              refine Eq.trans (jr_s (pc2 := 6) (lv2 := [(0, .ref 117), (1, .int 23)]) (st2 := [.long 17, .long 0, .long 23]) jF_267_3 rfl rfl) ?_
                                                              refine Eq.trans (jr_cS (as := [.long 23, .long 0, .long 17]) (rest := []) (v := some (.int 0)) (hp2 := jh2) (fr2 := 498) (lo2 := 19954) jF_267_6 rfl (show j_cnd 499 19979 498 19954 6 _ _ = true from rfl) ?_) ?_
                                                              · refine Eq.trans (jr_s (pc2 := 1) (lv2 := [(0, .long 23), (2, .long 0), (4, .long 17)]) (st2 := [.long 23]) jF_232_0 rfl rfl) ?_
                                                                refine Eq.trans (jr_s (pc2 := 2) (lv2 := [(0, .long 23), (2, .long 0), (4, .long 17)]) (st2 := [.long 0, .long 23]) jF_232_1 rfl rfl) ?_
                                                                refine Eq.trans (jr_s (pc2 := 3) (lv2 := [(0, .long 23), (2, .long 0), (4, .long 17)]) (st2 := [.int 1]) jF_232_2 rfl rfl) ?_
                                                                refine Eq.trans (jr_if0 jF_232_3 (by decide +kernel)) ?_
                                                                refine Eq.trans (jr_s (pc2 := 7) (lv2 := [(0, .long 23), (2, .long 0), (4, .long 17)]) (st2 := [.long 23]) jF_232_6 rfl rfl) ?_
                                                                refine Eq.trans (jr_s (pc2 := 9) (lv2 := [(0, .long 23), (2, .long 0), (4, .long 17)]) (st2 := [.long 17, .long 23]) jF_232_7 rfl rfl) ?_
                                                                refine Eq.trans (jr_s (pc2 := 10) (lv2 := [(0, .long 23), (2, .long 0), (4, .long 17)]) (st2 := [.int 1]) jF_232_9 rfl rfl) ?_
                                                                refine Eq.trans (jr_if1 jF_232_10 (by decide +kernel)) ?_
                                                                refine Eq.trans (jr_s (pc2 := 18) (lv2 := [(0, .long 23), (2, .long 0), (4, .long 17)]) (st2 := [.int 0]) jF_232_17 rfl rfl) ?_
                                                                exact jr_ri jF_232_18 rfl
                                                              refine Eq.trans (jr_if1 jF_267_9 (by decide +kernel)) ?_
                                                              refine Eq.trans (jr_s (pc2 := 23) (lv2 := [(0, .ref 117), (1, .int 23)]) (st2 := [.int 23]) jF_267_22 rfl rfl) ?_
                                                              refine Eq.trans (jr_s (pc2 := 25) (lv2 := [(0, .ref 117), (1, .int 23)]) (st2 := [.int 20, .int 23]) jF_267_23 rfl rfl) ?_
                                                              refine Eq.trans (jr_s (pc2 := 26) (lv2 := [(0, .ref 117), (1, .int 23)]) (st2 := [.int 3]) jF_267_25 rfl rfl) ?_
                                                              refine Eq.trans (jr_s (pc2 := 27) (lv2 := [(0, .ref 117), (1, .int 23)]) (st2 := [.long 3]) jF_267_26 rfl rfl) ?_
                                                              refine Eq.trans (jr_s (pc2 := 28) (lv2 := [(0, .ref 117), (1, .int 23)]) (st2 := [.long 0, .long 3]) jF_267_27 rfl rfl) ?_
                                                              refine Eq.trans (jr_s (pc2 := 29) (lv2 := [(0, .ref 117), (1, .int 23)]) (st2 := [.ref 117, .long 0, .long 3]) jF_267_28 rfl rfl) ?_
                                                              refine Eq.trans (jr_gf (v := .int 0) jF_267_29 (by decide +kernel)) ?_
                                                              refine Eq.trans (jr_s (pc2 := 33) (lv2 := [(0, .ref 117), (1, .int 23)]) (st2 := [.int 1, .int 0, .long 0, .long 3]) jF_267_32 rfl rfl) ?_
                                                              refine Eq.trans (jr_s (pc2 := 34) (lv2 := [(0, .ref 117), (1, .int 23)]) (st2 := [.int (-1), .long 0, .long 3]) jF_267_33 rfl rfl) ?_
                                                              refine Eq.trans (jr_s (pc2 := 35) (lv2 := [(0, .ref 117), (1, .int 23)]) (st2 := [.long (-1), .long 0, .long 3]) jF_267_34 rfl rfl) ?_
                                                              refine Eq.trans (jr_cS (as := [.long 3, .long 0, .long (-1)]) (rest := []) (v := some (.int 0)) (hp2 := jh2) (fr2 := 498) (lo2 := 19954) jF_267_35 rfl (show j_cnd 499 19979 498 19954 6 _ _ = true from rfl) ?_) ?_
                                                              · refine Eq.trans (jr_s (pc2 := 1) (lv2 := [(0, .long 3), (2, .long 0), (4, .long (-1))]) (st2 := [.long 3]) jF_232_0 rfl rfl) ?_
                                                                refine Eq.trans (jr_s (pc2 := 2) (lv2 := [(0, .long 3), (2, .long 0), (4, .long (-1))]) (st2 := [.long 0, .long 3]) jF_232_1 rfl rfl) ?_
                                                                refine Eq.trans (jr_s (pc2 := 3) (lv2 := [(0, .long 3), (2, .long 0), (4, .long (-1))]) (st2 := [.int 1]) jF_232_2 rfl rfl) ?_
                                                                refine Eq.trans (jr_if0 jF_232_3 (by decide +kernel)) ?_
                                                                refine Eq.trans (jr_s (pc2 := 7) (lv2 := [(0, .long 3), (2, .long 0), (4, .long (-1))]) (st2 := [.long 3]) jF_232_6 rfl rfl) ?_
                                                                refine Eq.trans (jr_s (pc2 := 9) (lv2 := [(0, .long 3), (2, .long 0), (4, .long (-1))]) (st2 := [.long (-1), .long 3]) jF_232_7 rfl rfl) ?_
                                                                refine Eq.trans (jr_s (pc2 := 10) (lv2 := [(0, .long 3), (2, .long 0), (4, .long (-1))]) (st2 := [.int 1]) jF_232_9 rfl rfl) ?_
                                                                refine Eq.trans (jr_if1 jF_232_10 (by decide +kernel)) ?_
                                                                refine Eq.trans (jr_s (pc2 := 18) (lv2 := [(0, .long 3), (2, .long 0), (4, .long (-1))]) (st2 := [.int 0]) jF_232_17 rfl rfl) ?_
                                                                exact jr_ri jF_232_18 rfl
                                                              refine Eq.trans (jr_if1 jF_267_38 (by decide +kernel)) ?_
                                                              refine Eq.trans (jr_s (pc2 := 56) (lv2 := [(0, .ref 117), (1, .int 23)]) (st2 := [.long 0]) jF_267_55 rfl rfl) ?_
                                                              exact jr_rl jF_267_56
                                                            refine Eq.trans (jr_s (pc2 := 6) (lv2 := [(3, .long 0), (0, .ref 117), (1, .int 23), (2, .int a2)]) (st2 := []) jF_266_5 rfl rfl) ?_
                                                            refine Eq.trans (jr_s (pc2 := 7) (lv2 := [(3, .long 0), (0, .ref 117), (1, .int 23), (2, .int a2)]) (st2 := [.long 0]) jF_266_6 rfl rfl) ?_
                                                            refine Eq.trans (jr_s (pc2 := 8) (lv2 := [(3, .long 0), (0, .ref 117), (1, .int 23), (2, .int a2)]) (st2 := [.long 0, .long 0]) jF_266_7 rfl rfl) ?_
                                                            refine Eq.trans (jr_s (pc2 := 9) (lv2 := [(3, .long 0), (0, .ref 117), (1, .int 23), (2, .int a2)]) (st2 := [.int 0]) jF_266_8 rfl rfl) ?_
                                                            refine Eq.trans (jr_if1 jF_266_9 (by decide +kernel)) ?_
                                                            refine Eq.trans (jr_s (pc2 := 25) (lv2 := [(3, .long 0), (0, .ref 117), (1, .int 23), (2, .int a2)]) (st2 := [.int (-1)]) jF_266_24 rfl rfl) ?_
                                                            exact jr_ri jF_266_25 rfl
                                                        · obtain rfl : a1 = 24 := Int32.toInt_inj.mp (by rw [show (24 : Int32).toInt = 24 from by decide]; omega)
                                                          refine ⟨60000, 60000, (-1), jh2, jh2, ?_, ?_, by decide +kernel⟩
                                                          · refine Eq.trans (jr_s (pc2 := 1) (lv2 := [(0, .ref 9), (1, .int 24), (2, .int a2)]) (st2 := [.ref 9]) jF_92_0 rfl rfl) ?_
                                                            refine Eq.trans (jr_gf (v := .ref 20) jF_92_1 (by decide +kernel)) ?_
                                                            refine Eq.trans (jr_s (pc2 := 5) (lv2 := [(0, .ref 9), (1, .int 24), (2, .int a2)]) (st2 := [.int 24, .ref 20]) jF_92_4 rfl rfl) ?_
                                                            refine Eq.trans (jr_s (pc2 := 6) (lv2 := [(0, .ref 9), (1, .int 24), (2, .int a2)]) (st2 := [.int a2, .int 24, .ref 20]) jF_92_5 rfl rfl) ?_
                                                            refine Eq.trans (jr_cV (a := 20) (as := [.int 24, .int a2]) (rest := []) (v := some (.int (-1))) (hp2 := jh2) (fr2 := 499) (lo2 := 19978) jF_92_6 (by decide +kernel) rfl (show j_cnd 500 20000 499 19978 3 _ _ = true from rfl) ?_) ?_
                                                            · refine Eq.trans (jr_s (pc2 := 1) (lv2 := [(0, .ref 20), (1, .int 24), (2, .int a2)]) (st2 := [.int 24]) jF_93_0 rfl rfl) ?_
                                                              refine Eq.trans (jr_if0 jF_93_1 (by decide +kernel)) ?_
                                                              refine Eq.trans (jr_s (pc2 := 5) (lv2 := [(0, .ref 20), (1, .int 24), (2, .int a2)]) (st2 := [.int 24]) jF_93_4 rfl rfl) ?_
                                                              refine Eq.trans (jr_s (pc2 := 6) (lv2 := [(0, .ref 20), (1, .int 24), (2, .int a2)]) (st2 := [.ref 20, .int 24]) jF_93_5 rfl rfl) ?_
                                                              refine Eq.trans (jr_gf (v := .ref 21) jF_93_6 (by decide +kernel)) ?_
                                                              refine Eq.trans (jr_al (v := 25) jF_93_9 (by decide +kernel)) ?_
                                                              refine Eq.trans (jr_ic0 jF_93_10 (by decide +kernel)) ?_
                                                              refine Eq.trans (jr_s (pc2 := 14) (lv2 := [(0, .ref 20), (1, .int 24), (2, .int a2)]) (st2 := [.int a2]) jF_93_13 rfl rfl) ?_
                                                              refine Eq.trans (jr_if0 jF_93_14 (jk_lt_ge (show (0 : Int32).toInt ≤ (a2 : Int32).toInt by rw [show (0 : Int32).toInt = 0 from by decide]; omega))) ?_
                                                              refine Eq.trans (jr_s (pc2 := 18) (lv2 := [(0, .ref 20), (1, .int 24), (2, .int a2)]) (st2 := [.int a2]) jF_93_17 rfl rfl) ?_
                                                              refine Eq.trans (jr_s (pc2 := 20) (lv2 := [(0, .ref 20), (1, .int 24), (2, .int a2)]) (st2 := [.int 6, .int a2]) jF_93_18 rfl rfl) ?_
                                                              refine Eq.trans (jr_ic0 jF_93_20 (jk_ge_lt (show (a2 : Int32).toInt < (6 : Int32).toInt by rw [show (6 : Int32).toInt = 6 from by decide]; omega))) ?_
                                                              refine Eq.trans (jr_s (pc2 := 24) (lv2 := [(0, .ref 20), (1, .int 24), (2, .int a2)]) (st2 := [.ref 20]) jF_93_23 rfl rfl) ?_
                                                              refine Eq.trans (jr_gf (v := .ref 21) jF_93_24 (by decide +kernel)) ?_
                                                              refine Eq.trans (jr_s (pc2 := 28) (lv2 := [(0, .ref 20), (1, .int 24), (2, .int a2)]) (st2 := [.int 24, .ref 21]) jF_93_27 rfl rfl) ?_
                                                              refine Eq.trans (jr_ldi (v := .int 0) jF_93_28 (by decide +kernel)) ?_
                                                              refine Eq.trans (jr_if0 jF_93_29 (by decide +kernel)) ?_
                                                              refine Eq.trans (jr_s (pc2 := 33) (lv2 := [(0, .ref 20), (1, .int 24), (2, .int a2)]) (st2 := [.int (-1)]) jF_93_32 rfl rfl) ?_
                                                              exact jr_ri jF_93_33 rfl
                                                            exact jr_ri jF_92_9 rfl
                                                          · refine Eq.trans (jr_s (pc2 := 1) (lv2 := [(0, .ref 117), (1, .int 24), (2, .int a2)]) (st2 := [.ref 117]) jF_266_0 rfl rfl) ?_
                                                            refine Eq.trans (jr_s (pc2 := 2) (lv2 := [(0, .ref 117), (1, .int 24), (2, .int a2)]) (st2 := [.int 24, .ref 117]) jF_266_1 rfl rfl) ?_
                                                            refine Eq.trans (jr_cV (a := 117) (as := [.int 24]) (rest := []) (v := some (.long 0)) (hp2 := jh2) (fr2 := 499) (lo2 := 19979) jF_266_2 (by decide +kernel) rfl (show j_cnd 500 20000 499 19979 2 _ _ = true from rfl) ?_) ?_
                                                            · refine Eq.trans (jr_s (pc2 := 1) (lv2 := [(0, .ref 117), (1, .int 24)]) (st2 := [.int 24]) jF_267_0 rfl rfl) ?_
                                                              refine Eq.trans (jr_s (pc2 := 2) (lv2 := [(0, .ref 117), (1, .int 24)]) (st2 := [.long 24]) jF_267_1 rfl rfl) ?_
                                                              refine Eq.trans (jr_s (pc2 := 3) (lv2 := [(0, .ref 117), (1, .int 24)]) (st2 := [.long 0, .long 24]) jF_267_2 rfl rfl) ?_
                                                              refine Eq.trans (jr_s (pc2 := 6) (lv2 := [(0, .ref 117), (1, .int 24)]) (st2 := [.long 17, .long 0, .long 24]) jF_267_3 rfl rfl) ?_
                                                              refine Eq.trans (jr_cS (as := [.long 24, .long 0, .long 17]) (rest := []) (v := some (.int 0)) (hp2 := jh2) (fr2 := 498) (lo2 := 19954) jF_267_6 rfl (show j_cnd 499 19979 498 19954 6 _ _ = true from rfl) ?_) ?_
                                                              · refine Eq.trans (jr_s (pc2 := 1) (lv2 := [(0, .long 24), (2, .long 0), (4, .long 17)]) (st2 := [.long 24]) jF_232_0 rfl rfl) ?_
                                                                refine Eq.trans (jr_s (pc2 := 2) (lv2 := [(0, .long 24), (2, .long 0), (4, .long 17)]) (st2 := [.long 0, .long 24]) jF_232_1 rfl rfl) ?_
                                                                refine Eq.trans (jr_s (pc2 := 3) (lv2 := [(0, .long 24), (2, .long 0), (4, .long 17)]) (st2 := [.int 1]) jF_232_2 rfl rfl) ?_
                                                                refine Eq.trans (jr_if0 jF_232_3 (by decide +kernel)) ?_
                                                                refine Eq.trans (jr_s (pc2 := 7) (lv2 := [(0, .long 24), (2, .long 0), (4, .long 17)]) (st2 := [.long 24]) jF_232_6 rfl rfl) ?_
                                                                refine Eq.trans (jr_s (pc2 := 9) (lv2 := [(0, .long 24), (2, .long 0), (4, .long 17)]) (st2 := [.long 17, .long 24]) jF_232_7 rfl rfl) ?_
                                                                refine Eq.trans (jr_s (pc2 := 10) (lv2 := [(0, .long 24), (2, .long 0), (4, .long 17)]) (st2 := [.int 1]) jF_232_9 rfl rfl) ?_
                                                                refine Eq.trans (jr_if1 jF_232_10 (by decide +kernel)) ?_
                                                                refine Eq.trans (jr_s (pc2 := 18) (lv2 := [(0, .long 24), (2, .long 0), (4, .long 17)]) (st2 := [.int 0]) jF_232_17 rfl rfl) ?_
                                                                exact jr_ri jF_232_18 rfl
                                                              refine Eq.trans (jr_if1 jF_267_9 (by decide +kernel)) ?_
                                                              refine Eq.trans (jr_s (pc2 := 23) (lv2 := [(0, .ref 117), (1, .int 24)]) (st2 := [.int 24]) jF_267_22 rfl rfl) ?_
                                                              refine Eq.trans (jr_s (pc2 := 25) (lv2 := [(0, .ref 117), (1, .int 24)]) (st2 := [.int 20, .int 24]) jF_267_23 rfl rfl) ?_
                                                              refine Eq.trans (jr_s (pc2 := 26) (lv2 := [(0, .ref 117), (1, .int 24)]) (st2 := [.int 4]) jF_267_25 rfl rfl) ?_
                                                              refine Eq.trans (jr_s (pc2 := 27) (lv2 := [(0, .ref 117), (1, .int 24)]) (st2 := [.long 4]) jF_267_26 rfl rfl) ?_
                                                              refine Eq.trans (jr_s (pc2 := 28) (lv2 := [(0, .ref 117), (1, .int 24)]) (st2 := [.long 0, .long 4]) jF_267_27 rfl rfl) ?_
                                                              refine Eq.trans (jr_s (pc2 := 29) (lv2 := [(0, .ref 117), (1, .int 24)]) (st2 := [.ref 117, .long 0, .long 4]) jF_267_28 rfl rfl) ?_
                                                              refine Eq.trans (jr_gf (v := .int 0) jF_267_29 (by decide +kernel)) ?_
                                                              refine Eq.trans (jr_s (pc2 := 33) (lv2 := [(0, .ref 117), (1, .int 24)]) (st2 := [.int 1, .int 0, .long 0, .long 4]) jF_267_32 rfl rfl) ?_
                                                              refine Eq.trans (jr_s (pc2 := 34) (lv2 := [(0, .ref 117), (1, .int 24)]) (st2 := [.int (-1), .long 0, .long 4]) jF_267_33 rfl rfl) ?_
                                                              refine Eq.trans (jr_s (pc2 := 35) (lv2 := [(0, .ref 117), (1, .int 24)]) (st2 := [.long (-1), .long 0, .long 4]) jF_267_34 rfl rfl) ?_
                                                              refine Eq.trans (jr_cS (as := [.long 4, .long 0, .long (-1)]) (rest := []) (v := some (.int 0)) (hp2 := jh2) (fr2 := 498) (lo2 := 19954) jF_267_35 rfl (show j_cnd 499 19979 498 19954 6 _ _ = true from rfl) ?_) ?_
                                                              · refine Eq.trans (jr_s (pc2 := 1) (lv2 := [(0, .long 4), (2, .long 0), (4, .long (-1))]) (st2 := [.long 4]) jF_232_0 rfl rfl) ?_
                                                                refine Eq.trans (jr_s (pc2 := 2) (lv2 := [(0, .long 4), (2, .long 0), (4, .long (-1))]) (st2 := [.long 0, .long 4]) jF_232_1 rfl rfl) ?_
                                                                refine Eq.trans (jr_s (pc2 := 3) (lv2 := [(0, .long 4), (2, .long 0), (4, .long (-1))]) (st2 := [.int 1]) jF_232_2 rfl rfl) ?_
                                                                refine Eq.trans (jr_if0 jF_232_3 (by decide +kernel)) ?_
                                                                refine Eq.trans (jr_s (pc2 := 7) (lv2 := [(0, .long 4), (2, .long 0), (4, .long (-1))]) (st2 := [.long 4]) jF_232_6 rfl rfl) ?_
                                                                refine Eq.trans (jr_s (pc2 := 9) (lv2 := [(0, .long 4), (2, .long 0), (4, .long (-1))]) (st2 := [.long (-1), .long 4]) jF_232_7 rfl rfl) ?_
                                                                refine Eq.trans (jr_s (pc2 := 10) (lv2 := [(0, .long 4), (2, .long 0), (4, .long (-1))]) (st2 := [.int 1]) jF_232_9 rfl rfl) ?_
                                                                refine Eq.trans (jr_if1 jF_232_10 (by decide +kernel)) ?_
                                                                refine Eq.trans (jr_s (pc2 := 18) (lv2 := [(0, .long 4), (2, .long 0), (4, .long (-1))]) (st2 := [.int 0]) jF_232_17 rfl rfl) ?_
                                                                exact jr_ri jF_232_18 rfl
                                                              refine Eq.trans (jr_if1 jF_267_38 (by decide +kernel)) ?_
                                                              refine Eq.trans (jr_s (pc2 := 56) (lv2 := [(0, .ref 117), (1, .int 24)]) (st2 := [.long 0]) jF_267_55 rfl rfl) ?_
                                                              exact jr_rl jF_267_56
                                                            refine Eq.trans (jr_s (pc2 := 6) (lv2 := [(3, .long 0), (0, .ref 117), (1, .int 24), (2, .int a2)]) (st2 := []) jF_266_5 rfl rfl) ?_
                                                            refine Eq.trans (jr_s (pc2 := 7) (lv2 := [(3, .long 0), (0, .ref 117), (1, .int 24), (2, .int a2)]) (st2 := [.long 0]) jF_266_6 rfl rfl) ?_
                                                            refine Eq.trans (jr_s (pc2 := 8) (lv2 := [(3, .long 0), (0, .ref 117), (1, .int 24), (2, .int a2)]) (st2 := [.long 0, .long 0]) jF_266_7 rfl rfl) ?_
                                                            refine Eq.trans (jr_s (pc2 := 9) (lv2 := [(3, .long 0), (0, .ref 117), (1, .int 24), (2, .int a2)]) (st2 := [.int 0]) jF_266_8 rfl rfl) ?_
                                                            refine Eq.trans (jr_if1 jF_266_9 (by decide +kernel)) ?_
                                                            refine Eq.trans (jr_s (pc2 := 25) (lv2 := [(3, .long 0), (0, .ref 117), (1, .int 24), (2, .int a2)]) (st2 := [.int (-1)]) jF_266_24 rfl rfl) ?_
                                                            exact jr_ri jF_266_25 rfl
        · rcases j_ilt a1.toInt 18 with h_a1_18 | h_a1_18
          · rcases j_ilt a1.toInt 1 with h_a1_1 | h_a1_1
            · obtain rfl : a1 = 0 := Int32.toInt_inj.mp (by rw [show (0 : Int32).toInt = 0 from by decide]; omega)
              refine ⟨60000, 60000, (-1), jh2, jh2, ?_, ?_, by decide +kernel⟩
              · refine Eq.trans (jr_s (pc2 := 1) (lv2 := [(0, .ref 9), (1, .int 0), (2, .int a2)]) (st2 := [.ref 9]) jF_92_0 rfl rfl) ?_
                refine Eq.trans (jr_gf (v := .ref 20) jF_92_1 (by decide +kernel)) ?_
                refine Eq.trans (jr_s (pc2 := 5) (lv2 := [(0, .ref 9), (1, .int 0), (2, .int a2)]) (st2 := [.int 0, .ref 20]) jF_92_4 rfl rfl) ?_
                refine Eq.trans (jr_s (pc2 := 6) (lv2 := [(0, .ref 9), (1, .int 0), (2, .int a2)]) (st2 := [.int a2, .int 0, .ref 20]) jF_92_5 rfl rfl) ?_
                refine Eq.trans (jr_cV (a := 20) (as := [.int 0, .int a2]) (rest := []) (v := some (.int (-1))) (hp2 := jh2) (fr2 := 499) (lo2 := 19978) jF_92_6 (by decide +kernel) rfl (show j_cnd 500 20000 499 19978 3 _ _ = true from rfl) ?_) ?_
                · refine Eq.trans (jr_s (pc2 := 1) (lv2 := [(0, .ref 20), (1, .int 0), (2, .int a2)]) (st2 := [.int 0]) jF_93_0 rfl rfl) ?_
                  refine Eq.trans (jr_if0 jF_93_1 (by decide +kernel)) ?_
                  refine Eq.trans (jr_s (pc2 := 5) (lv2 := [(0, .ref 20), (1, .int 0), (2, .int a2)]) (st2 := [.int 0]) jF_93_4 rfl rfl) ?_
                  refine Eq.trans (jr_s (pc2 := 6) (lv2 := [(0, .ref 20), (1, .int 0), (2, .int a2)]) (st2 := [.ref 20, .int 0]) jF_93_5 rfl rfl) ?_
                  refine Eq.trans (jr_gf (v := .ref 21) jF_93_6 (by decide +kernel)) ?_
                  refine Eq.trans (jr_al (v := 25) jF_93_9 (by decide +kernel)) ?_
                  refine Eq.trans (jr_ic0 jF_93_10 (by decide +kernel)) ?_
                  refine Eq.trans (jr_s (pc2 := 14) (lv2 := [(0, .ref 20), (1, .int 0), (2, .int a2)]) (st2 := [.int a2]) jF_93_13 rfl rfl) ?_
                  refine Eq.trans (jr_if0 jF_93_14 (jk_lt_ge (show (0 : Int32).toInt ≤ (a2 : Int32).toInt by rw [show (0 : Int32).toInt = 0 from by decide]; omega))) ?_
                  refine Eq.trans (jr_s (pc2 := 18) (lv2 := [(0, .ref 20), (1, .int 0), (2, .int a2)]) (st2 := [.int a2]) jF_93_17 rfl rfl) ?_
                  refine Eq.trans (jr_s (pc2 := 20) (lv2 := [(0, .ref 20), (1, .int 0), (2, .int a2)]) (st2 := [.int 6, .int a2]) jF_93_18 rfl rfl) ?_
                  refine Eq.trans (jr_ic1 jF_93_20 (jk_ge_ge (show (6 : Int32).toInt ≤ (a2 : Int32).toInt by rw [show (6 : Int32).toInt = 6 from by decide]; omega))) ?_
                  refine Eq.trans (jr_s (pc2 := 33) (lv2 := [(0, .ref 20), (1, .int 0), (2, .int a2)]) (st2 := [.int (-1)]) jF_93_32 rfl rfl) ?_
                  exact jr_ri jF_93_33 rfl
                exact jr_ri jF_92_9 rfl
              · refine Eq.trans (jr_s (pc2 := 1) (lv2 := [(0, .ref 117), (1, .int 0), (2, .int a2)]) (st2 := [.ref 117]) jF_266_0 rfl rfl) ?_
                refine Eq.trans (jr_s (pc2 := 2) (lv2 := [(0, .ref 117), (1, .int 0), (2, .int a2)]) (st2 := [.int 0, .ref 117]) jF_266_1 rfl rfl) ?_
                refine Eq.trans (jr_cV (a := 117) (as := [.int 0]) (rest := []) (v := some (.long 0)) (hp2 := jh2) (fr2 := 499) (lo2 := 19979) jF_266_2 (by decide +kernel) rfl (show j_cnd 500 20000 499 19979 2 _ _ = true from rfl) ?_) ?_
                · refine Eq.trans (jr_s (pc2 := 1) (lv2 := [(0, .ref 117), (1, .int 0)]) (st2 := [.int 0]) jF_267_0 rfl rfl) ?_
                  refine Eq.trans (jr_s (pc2 := 2) (lv2 := [(0, .ref 117), (1, .int 0)]) (st2 := [.long 0]) jF_267_1 rfl rfl) ?_
                  refine Eq.trans (jr_s (pc2 := 3) (lv2 := [(0, .ref 117), (1, .int 0)]) (st2 := [.long 0, .long 0]) jF_267_2 rfl rfl) ?_
                  refine Eq.trans (jr_s (pc2 := 6) (lv2 := [(0, .ref 117), (1, .int 0)]) (st2 := [.long 17, .long 0, .long 0]) jF_267_3 rfl rfl) ?_
                  refine Eq.trans (jr_cS (as := [.long 0, .long 0, .long 17]) (rest := []) (v := some (.int 1)) (hp2 := jh2) (fr2 := 498) (lo2 := 19954) jF_267_6 rfl (show j_cnd 499 19979 498 19954 6 _ _ = true from rfl) ?_) ?_
                  · refine Eq.trans (jr_s (pc2 := 1) (lv2 := [(0, .long 0), (2, .long 0), (4, .long 17)]) (st2 := [.long 0]) jF_232_0 rfl rfl) ?_
                    refine Eq.trans (jr_s (pc2 := 2) (lv2 := [(0, .long 0), (2, .long 0), (4, .long 17)]) (st2 := [.long 0, .long 0]) jF_232_1 rfl rfl) ?_
                    refine Eq.trans (jr_s (pc2 := 3) (lv2 := [(0, .long 0), (2, .long 0), (4, .long 17)]) (st2 := [.int 0]) jF_232_2 rfl rfl) ?_
                    refine Eq.trans (jr_if0 jF_232_3 (by decide +kernel)) ?_
                    refine Eq.trans (jr_s (pc2 := 7) (lv2 := [(0, .long 0), (2, .long 0), (4, .long 17)]) (st2 := [.long 0]) jF_232_6 rfl rfl) ?_
                    refine Eq.trans (jr_s (pc2 := 9) (lv2 := [(0, .long 0), (2, .long 0), (4, .long 17)]) (st2 := [.long 17, .long 0]) jF_232_7 rfl rfl) ?_
                    refine Eq.trans (jr_s (pc2 := 10) (lv2 := [(0, .long 0), (2, .long 0), (4, .long 17)]) (st2 := [.int (-1)]) jF_232_9 rfl rfl) ?_
                    refine Eq.trans (jr_if0 jF_232_10 (by decide +kernel)) ?_
                    refine Eq.trans (jr_s (pc2 := 14) (lv2 := [(0, .long 0), (2, .long 0), (4, .long 17)]) (st2 := [.int 1]) jF_232_13 rfl rfl) ?_
                    refine Eq.trans (jr_s (pc2 := 18) (lv2 := [(0, .long 0), (2, .long 0), (4, .long 17)]) (st2 := [.int 1]) jF_232_14 rfl rfl) ?_
                    exact jr_ri jF_232_18 rfl
                  refine Eq.trans (jr_if0 jF_267_9 (by decide +kernel)) ?_
                  refine Eq.trans (jr_s (pc2 := 13) (lv2 := [(0, .ref 117), (1, .int 0)]) (st2 := [.ref 117]) jF_267_12 rfl rfl) ?_
                  refine Eq.trans (jr_gf (v := .ref 138) jF_267_13 (by decide +kernel)) ?_
                  refine Eq.trans (jr_s (pc2 := 18) (lv2 := [(0, .ref 117), (1, .int 0)]) (st2 := [.int 18, .ref 138]) jF_267_16 rfl rfl) ?_
                  refine Eq.trans (jr_s (pc2 := 19) (lv2 := [(0, .ref 117), (1, .int 0)]) (st2 := [.int 0, .int 18, .ref 138]) jF_267_18 rfl rfl) ?_
                  refine Eq.trans (jr_s (pc2 := 20) (lv2 := [(0, .ref 117), (1, .int 0)]) (st2 := [.int 18, .ref 138]) jF_267_19 rfl rfl) ?_
                  refine Eq.trans (jr_ldl (v := .long 0) jF_267_20 (by decide +kernel)) ?_
                  exact jr_rl jF_267_21
                refine Eq.trans (jr_s (pc2 := 6) (lv2 := [(3, .long 0), (0, .ref 117), (1, .int 0), (2, .int a2)]) (st2 := []) jF_266_5 rfl rfl) ?_
                refine Eq.trans (jr_s (pc2 := 7) (lv2 := [(3, .long 0), (0, .ref 117), (1, .int 0), (2, .int a2)]) (st2 := [.long 0]) jF_266_6 rfl rfl) ?_
                refine Eq.trans (jr_s (pc2 := 8) (lv2 := [(3, .long 0), (0, .ref 117), (1, .int 0), (2, .int a2)]) (st2 := [.long 0, .long 0]) jF_266_7 rfl rfl) ?_
                refine Eq.trans (jr_s (pc2 := 9) (lv2 := [(3, .long 0), (0, .ref 117), (1, .int 0), (2, .int a2)]) (st2 := [.int 0]) jF_266_8 rfl rfl) ?_
                refine Eq.trans (jr_if1 jF_266_9 (by decide +kernel)) ?_
                refine Eq.trans (jr_s (pc2 := 25) (lv2 := [(3, .long 0), (0, .ref 117), (1, .int 0), (2, .int a2)]) (st2 := [.int (-1)]) jF_266_24 rfl rfl) ?_
                exact jr_ri jF_266_25 rfl
            · rcases j_ilt a1.toInt 2 with h_a1_2 | h_a1_2
              · obtain rfl : a1 = 1 := Int32.toInt_inj.mp (by rw [show (1 : Int32).toInt = 1 from by decide]; omega)
                refine ⟨60000, 60000, (-1), jh2, jh2, ?_, ?_, by decide +kernel⟩
                · refine Eq.trans (jr_s (pc2 := 1) (lv2 := [(0, .ref 9), (1, .int 1), (2, .int a2)]) (st2 := [.ref 9]) jF_92_0 rfl rfl) ?_
                  refine Eq.trans (jr_gf (v := .ref 20) jF_92_1 (by decide +kernel)) ?_
                  refine Eq.trans (jr_s (pc2 := 5) (lv2 := [(0, .ref 9), (1, .int 1), (2, .int a2)]) (st2 := [.int 1, .ref 20]) jF_92_4 rfl rfl) ?_
                  refine Eq.trans (jr_s (pc2 := 6) (lv2 := [(0, .ref 9), (1, .int 1), (2, .int a2)]) (st2 := [.int a2, .int 1, .ref 20]) jF_92_5 rfl rfl) ?_
                  refine Eq.trans (jr_cV (a := 20) (as := [.int 1, .int a2]) (rest := []) (v := some (.int (-1))) (hp2 := jh2) (fr2 := 499) (lo2 := 19978) jF_92_6 (by decide +kernel) rfl (show j_cnd 500 20000 499 19978 3 _ _ = true from rfl) ?_) ?_
                  · refine Eq.trans (jr_s (pc2 := 1) (lv2 := [(0, .ref 20), (1, .int 1), (2, .int a2)]) (st2 := [.int 1]) jF_93_0 rfl rfl) ?_
                    refine Eq.trans (jr_if0 jF_93_1 (by decide +kernel)) ?_
                    refine Eq.trans (jr_s (pc2 := 5) (lv2 := [(0, .ref 20), (1, .int 1), (2, .int a2)]) (st2 := [.int 1]) jF_93_4 rfl rfl) ?_
                    refine Eq.trans (jr_s (pc2 := 6) (lv2 := [(0, .ref 20), (1, .int 1), (2, .int a2)]) (st2 := [.ref 20, .int 1]) jF_93_5 rfl rfl) ?_
                    refine Eq.trans (jr_gf (v := .ref 21) jF_93_6 (by decide +kernel)) ?_
                    refine Eq.trans (jr_al (v := 25) jF_93_9 (by decide +kernel)) ?_
                    refine Eq.trans (jr_ic0 jF_93_10 (by decide +kernel)) ?_
                    refine Eq.trans (jr_s (pc2 := 14) (lv2 := [(0, .ref 20), (1, .int 1), (2, .int a2)]) (st2 := [.int a2]) jF_93_13 rfl rfl) ?_
                    refine Eq.trans (jr_if0 jF_93_14 (jk_lt_ge (show (0 : Int32).toInt ≤ (a2 : Int32).toInt by rw [show (0 : Int32).toInt = 0 from by decide]; omega))) ?_
                    refine Eq.trans (jr_s (pc2 := 18) (lv2 := [(0, .ref 20), (1, .int 1), (2, .int a2)]) (st2 := [.int a2]) jF_93_17 rfl rfl) ?_
                    refine Eq.trans (jr_s (pc2 := 20) (lv2 := [(0, .ref 20), (1, .int 1), (2, .int a2)]) (st2 := [.int 6, .int a2]) jF_93_18 rfl rfl) ?_
                    refine Eq.trans (jr_ic1 jF_93_20 (jk_ge_ge (show (6 : Int32).toInt ≤ (a2 : Int32).toInt by rw [show (6 : Int32).toInt = 6 from by decide]; omega))) ?_
                    refine Eq.trans (jr_s (pc2 := 33) (lv2 := [(0, .ref 20), (1, .int 1), (2, .int a2)]) (st2 := [.int (-1)]) jF_93_32 rfl rfl) ?_
                    exact jr_ri jF_93_33 rfl
                  exact jr_ri jF_92_9 rfl
                · refine Eq.trans (jr_s (pc2 := 1) (lv2 := [(0, .ref 117), (1, .int 1), (2, .int a2)]) (st2 := [.ref 117]) jF_266_0 rfl rfl) ?_
                  refine Eq.trans (jr_s (pc2 := 2) (lv2 := [(0, .ref 117), (1, .int 1), (2, .int a2)]) (st2 := [.int 1, .ref 117]) jF_266_1 rfl rfl) ?_
                  refine Eq.trans (jr_cV (a := 117) (as := [.int 1]) (rest := []) (v := some (.long 0)) (hp2 := jh2) (fr2 := 499) (lo2 := 19979) jF_266_2 (by decide +kernel) rfl (show j_cnd 500 20000 499 19979 2 _ _ = true from rfl) ?_) ?_
                  · refine Eq.trans (jr_s (pc2 := 1) (lv2 := [(0, .ref 117), (1, .int 1)]) (st2 := [.int 1]) jF_267_0 rfl rfl) ?_
                    refine Eq.trans (jr_s (pc2 := 2) (lv2 := [(0, .ref 117), (1, .int 1)]) (st2 := [.long 1]) jF_267_1 rfl rfl) ?_
                    refine Eq.trans (jr_s (pc2 := 3) (lv2 := [(0, .ref 117), (1, .int 1)]) (st2 := [.long 0, .long 1]) jF_267_2 rfl rfl) ?_
                    refine Eq.trans (jr_s (pc2 := 6) (lv2 := [(0, .ref 117), (1, .int 1)]) (st2 := [.long 17, .long 0, .long 1]) jF_267_3 rfl rfl) ?_
                    refine Eq.trans (jr_cS (as := [.long 1, .long 0, .long 17]) (rest := []) (v := some (.int 1)) (hp2 := jh2) (fr2 := 498) (lo2 := 19954) jF_267_6 rfl (show j_cnd 499 19979 498 19954 6 _ _ = true from rfl) ?_) ?_
                    · refine Eq.trans (jr_s (pc2 := 1) (lv2 := [(0, .long 1), (2, .long 0), (4, .long 17)]) (st2 := [.long 1]) jF_232_0 rfl rfl) ?_
                      refine Eq.trans (jr_s (pc2 := 2) (lv2 := [(0, .long 1), (2, .long 0), (4, .long 17)]) (st2 := [.long 0, .long 1]) jF_232_1 rfl rfl) ?_
                      refine Eq.trans (jr_s (pc2 := 3) (lv2 := [(0, .long 1), (2, .long 0), (4, .long 17)]) (st2 := [.int 1]) jF_232_2 rfl rfl) ?_
                      refine Eq.trans (jr_if0 jF_232_3 (by decide +kernel)) ?_
                      refine Eq.trans (jr_s (pc2 := 7) (lv2 := [(0, .long 1), (2, .long 0), (4, .long 17)]) (st2 := [.long 1]) jF_232_6 rfl rfl) ?_
                      refine Eq.trans (jr_s (pc2 := 9) (lv2 := [(0, .long 1), (2, .long 0), (4, .long 17)]) (st2 := [.long 17, .long 1]) jF_232_7 rfl rfl) ?_
                      refine Eq.trans (jr_s (pc2 := 10) (lv2 := [(0, .long 1), (2, .long 0), (4, .long 17)]) (st2 := [.int (-1)]) jF_232_9 rfl rfl) ?_
                      refine Eq.trans (jr_if0 jF_232_10 (by decide +kernel)) ?_
                      refine Eq.trans (jr_s (pc2 := 14) (lv2 := [(0, .long 1), (2, .long 0), (4, .long 17)]) (st2 := [.int 1]) jF_232_13 rfl rfl) ?_
                      refine Eq.trans (jr_s (pc2 := 18) (lv2 := [(0, .long 1), (2, .long 0), (4, .long 17)]) (st2 := [.int 1]) jF_232_14 rfl rfl) ?_
                      exact jr_ri jF_232_18 rfl
                    refine Eq.trans (jr_if0 jF_267_9 (by decide +kernel)) ?_
                    refine Eq.trans (jr_s (pc2 := 13) (lv2 := [(0, .ref 117), (1, .int 1)]) (st2 := [.ref 117]) jF_267_12 rfl rfl) ?_
                    refine Eq.trans (jr_gf (v := .ref 138) jF_267_13 (by decide +kernel)) ?_
                    refine Eq.trans (jr_s (pc2 := 18) (lv2 := [(0, .ref 117), (1, .int 1)]) (st2 := [.int 18, .ref 138]) jF_267_16 rfl rfl) ?_
                    refine Eq.trans (jr_s (pc2 := 19) (lv2 := [(0, .ref 117), (1, .int 1)]) (st2 := [.int 1, .int 18, .ref 138]) jF_267_18 rfl rfl) ?_
                    refine Eq.trans (jr_s (pc2 := 20) (lv2 := [(0, .ref 117), (1, .int 1)]) (st2 := [.int 19, .ref 138]) jF_267_19 rfl rfl) ?_
                    refine Eq.trans (jr_ldl (v := .long 0) jF_267_20 (by decide +kernel)) ?_
                    exact jr_rl jF_267_21
                  refine Eq.trans (jr_s (pc2 := 6) (lv2 := [(3, .long 0), (0, .ref 117), (1, .int 1), (2, .int a2)]) (st2 := []) jF_266_5 rfl rfl) ?_
                  refine Eq.trans (jr_s (pc2 := 7) (lv2 := [(3, .long 0), (0, .ref 117), (1, .int 1), (2, .int a2)]) (st2 := [.long 0]) jF_266_6 rfl rfl) ?_
                  refine Eq.trans (jr_s (pc2 := 8) (lv2 := [(3, .long 0), (0, .ref 117), (1, .int 1), (2, .int a2)]) (st2 := [.long 0, .long 0]) jF_266_7 rfl rfl) ?_
                  refine Eq.trans (jr_s (pc2 := 9) (lv2 := [(3, .long 0), (0, .ref 117), (1, .int 1), (2, .int a2)]) (st2 := [.int 0]) jF_266_8 rfl rfl) ?_
                  refine Eq.trans (jr_if1 jF_266_9 (by decide +kernel)) ?_
                  refine Eq.trans (jr_s (pc2 := 25) (lv2 := [(3, .long 0), (0, .ref 117), (1, .int 1), (2, .int a2)]) (st2 := [.int (-1)]) jF_266_24 rfl rfl) ?_
                  exact jr_ri jF_266_25 rfl
              · rcases j_ilt a1.toInt 3 with h_a1_3 | h_a1_3
                · obtain rfl : a1 = 2 := Int32.toInt_inj.mp (by rw [show (2 : Int32).toInt = 2 from by decide]; omega)
                  refine ⟨60000, 60000, (-1), jh2, jh2, ?_, ?_, by decide +kernel⟩
                  · refine Eq.trans (jr_s (pc2 := 1) (lv2 := [(0, .ref 9), (1, .int 2), (2, .int a2)]) (st2 := [.ref 9]) jF_92_0 rfl rfl) ?_
                    refine Eq.trans (jr_gf (v := .ref 20) jF_92_1 (by decide +kernel)) ?_
                    refine Eq.trans (jr_s (pc2 := 5) (lv2 := [(0, .ref 9), (1, .int 2), (2, .int a2)]) (st2 := [.int 2, .ref 20]) jF_92_4 rfl rfl) ?_
                    refine Eq.trans (jr_s (pc2 := 6) (lv2 := [(0, .ref 9), (1, .int 2), (2, .int a2)]) (st2 := [.int a2, .int 2, .ref 20]) jF_92_5 rfl rfl) ?_
                    refine Eq.trans (jr_cV (a := 20) (as := [.int 2, .int a2]) (rest := []) (v := some (.int (-1))) (hp2 := jh2) (fr2 := 499) (lo2 := 19978) jF_92_6 (by decide +kernel) rfl (show j_cnd 500 20000 499 19978 3 _ _ = true from rfl) ?_) ?_
                    · refine Eq.trans (jr_s (pc2 := 1) (lv2 := [(0, .ref 20), (1, .int 2), (2, .int a2)]) (st2 := [.int 2]) jF_93_0 rfl rfl) ?_
                      refine Eq.trans (jr_if0 jF_93_1 (by decide +kernel)) ?_
                      refine Eq.trans (jr_s (pc2 := 5) (lv2 := [(0, .ref 20), (1, .int 2), (2, .int a2)]) (st2 := [.int 2]) jF_93_4 rfl rfl) ?_
                      refine Eq.trans (jr_s (pc2 := 6) (lv2 := [(0, .ref 20), (1, .int 2), (2, .int a2)]) (st2 := [.ref 20, .int 2]) jF_93_5 rfl rfl) ?_
                      refine Eq.trans (jr_gf (v := .ref 21) jF_93_6 (by decide +kernel)) ?_
                      refine Eq.trans (jr_al (v := 25) jF_93_9 (by decide +kernel)) ?_
                      refine Eq.trans (jr_ic0 jF_93_10 (by decide +kernel)) ?_
                      refine Eq.trans (jr_s (pc2 := 14) (lv2 := [(0, .ref 20), (1, .int 2), (2, .int a2)]) (st2 := [.int a2]) jF_93_13 rfl rfl) ?_
                      refine Eq.trans (jr_if0 jF_93_14 (jk_lt_ge (show (0 : Int32).toInt ≤ (a2 : Int32).toInt by rw [show (0 : Int32).toInt = 0 from by decide]; omega))) ?_
                      refine Eq.trans (jr_s (pc2 := 18) (lv2 := [(0, .ref 20), (1, .int 2), (2, .int a2)]) (st2 := [.int a2]) jF_93_17 rfl rfl) ?_
                      refine Eq.trans (jr_s (pc2 := 20) (lv2 := [(0, .ref 20), (1, .int 2), (2, .int a2)]) (st2 := [.int 6, .int a2]) jF_93_18 rfl rfl) ?_
                      refine Eq.trans (jr_ic1 jF_93_20 (jk_ge_ge (show (6 : Int32).toInt ≤ (a2 : Int32).toInt by rw [show (6 : Int32).toInt = 6 from by decide]; omega))) ?_
                      refine Eq.trans (jr_s (pc2 := 33) (lv2 := [(0, .ref 20), (1, .int 2), (2, .int a2)]) (st2 := [.int (-1)]) jF_93_32 rfl rfl) ?_
                      exact jr_ri jF_93_33 rfl
                    exact jr_ri jF_92_9 rfl
                  · refine Eq.trans (jr_s (pc2 := 1) (lv2 := [(0, .ref 117), (1, .int 2), (2, .int a2)]) (st2 := [.ref 117]) jF_266_0 rfl rfl) ?_
                    refine Eq.trans (jr_s (pc2 := 2) (lv2 := [(0, .ref 117), (1, .int 2), (2, .int a2)]) (st2 := [.int 2, .ref 117]) jF_266_1 rfl rfl) ?_
                    refine Eq.trans (jr_cV (a := 117) (as := [.int 2]) (rest := []) (v := some (.long 0)) (hp2 := jh2) (fr2 := 499) (lo2 := 19979) jF_266_2 (by decide +kernel) rfl (show j_cnd 500 20000 499 19979 2 _ _ = true from rfl) ?_) ?_
                    · refine Eq.trans (jr_s (pc2 := 1) (lv2 := [(0, .ref 117), (1, .int 2)]) (st2 := [.int 2]) jF_267_0 rfl rfl) ?_
                      refine Eq.trans (jr_s (pc2 := 2) (lv2 := [(0, .ref 117), (1, .int 2)]) (st2 := [.long 2]) jF_267_1 rfl rfl) ?_
                      refine Eq.trans (jr_s (pc2 := 3) (lv2 := [(0, .ref 117), (1, .int 2)]) (st2 := [.long 0, .long 2]) jF_267_2 rfl rfl) ?_
                      refine Eq.trans (jr_s (pc2 := 6) (lv2 := [(0, .ref 117), (1, .int 2)]) (st2 := [.long 17, .long 0, .long 2]) jF_267_3 rfl rfl) ?_
                      refine Eq.trans (jr_cS (as := [.long 2, .long 0, .long 17]) (rest := []) (v := some (.int 1)) (hp2 := jh2) (fr2 := 498) (lo2 := 19954) jF_267_6 rfl (show j_cnd 499 19979 498 19954 6 _ _ = true from rfl) ?_) ?_
                      · refine Eq.trans (jr_s (pc2 := 1) (lv2 := [(0, .long 2), (2, .long 0), (4, .long 17)]) (st2 := [.long 2]) jF_232_0 rfl rfl) ?_
                        refine Eq.trans (jr_s (pc2 := 2) (lv2 := [(0, .long 2), (2, .long 0), (4, .long 17)]) (st2 := [.long 0, .long 2]) jF_232_1 rfl rfl) ?_
                        refine Eq.trans (jr_s (pc2 := 3) (lv2 := [(0, .long 2), (2, .long 0), (4, .long 17)]) (st2 := [.int 1]) jF_232_2 rfl rfl) ?_
                        refine Eq.trans (jr_if0 jF_232_3 (by decide +kernel)) ?_
                        refine Eq.trans (jr_s (pc2 := 7) (lv2 := [(0, .long 2), (2, .long 0), (4, .long 17)]) (st2 := [.long 2]) jF_232_6 rfl rfl) ?_
                        refine Eq.trans (jr_s (pc2 := 9) (lv2 := [(0, .long 2), (2, .long 0), (4, .long 17)]) (st2 := [.long 17, .long 2]) jF_232_7 rfl rfl) ?_
                        refine Eq.trans (jr_s (pc2 := 10) (lv2 := [(0, .long 2), (2, .long 0), (4, .long 17)]) (st2 := [.int (-1)]) jF_232_9 rfl rfl) ?_
                        refine Eq.trans (jr_if0 jF_232_10 (by decide +kernel)) ?_
                        refine Eq.trans (jr_s (pc2 := 14) (lv2 := [(0, .long 2), (2, .long 0), (4, .long 17)]) (st2 := [.int 1]) jF_232_13 rfl rfl) ?_
                        refine Eq.trans (jr_s (pc2 := 18) (lv2 := [(0, .long 2), (2, .long 0), (4, .long 17)]) (st2 := [.int 1]) jF_232_14 rfl rfl) ?_
                        exact jr_ri jF_232_18 rfl
                      refine Eq.trans (jr_if0 jF_267_9 (by decide +kernel)) ?_
                      refine Eq.trans (jr_s (pc2 := 13) (lv2 := [(0, .ref 117), (1, .int 2)]) (st2 := [.ref 117]) jF_267_12 rfl rfl) ?_
                      refine Eq.trans (jr_gf (v := .ref 138) jF_267_13 (by decide +kernel)) ?_
                      refine Eq.trans (jr_s (pc2 := 18) (lv2 := [(0, .ref 117), (1, .int 2)]) (st2 := [.int 18, .ref 138]) jF_267_16 rfl rfl) ?_
                      refine Eq.trans (jr_s (pc2 := 19) (lv2 := [(0, .ref 117), (1, .int 2)]) (st2 := [.int 2, .int 18, .ref 138]) jF_267_18 rfl rfl) ?_
                      refine Eq.trans (jr_s (pc2 := 20) (lv2 := [(0, .ref 117), (1, .int 2)]) (st2 := [.int 20, .ref 138]) jF_267_19 rfl rfl) ?_
                      refine Eq.trans (jr_ldl (v := .long 0) jF_267_20 (by decide +kernel)) ?_
                      exact jr_rl jF_267_21
                    refine Eq.trans (jr_s (pc2 := 6) (lv2 := [(3, .long 0), (0, .ref 117), (1, .int 2), (2, .int a2)]) (st2 := []) jF_266_5 rfl rfl) ?_
                    refine Eq.trans (jr_s (pc2 := 7) (lv2 := [(3, .long 0), (0, .ref 117), (1, .int 2), (2, .int a2)]) (st2 := [.long 0]) jF_266_6 rfl rfl) ?_
                    refine Eq.trans (jr_s (pc2 := 8) (lv2 := [(3, .long 0), (0, .ref 117), (1, .int 2), (2, .int a2)]) (st2 := [.long 0, .long 0]) jF_266_7 rfl rfl) ?_
                    refine Eq.trans (jr_s (pc2 := 9) (lv2 := [(3, .long 0), (0, .ref 117), (1, .int 2), (2, .int a2)]) (st2 := [.int 0]) jF_266_8 rfl rfl) ?_
                    refine Eq.trans (jr_if1 jF_266_9 (by decide +kernel)) ?_
                    refine Eq.trans (jr_s (pc2 := 25) (lv2 := [(3, .long 0), (0, .ref 117), (1, .int 2), (2, .int a2)]) (st2 := [.int (-1)]) jF_266_24 rfl rfl) ?_
                    exact jr_ri jF_266_25 rfl
                · rcases j_ilt a1.toInt 4 with h_a1_4 | h_a1_4
                  · obtain rfl : a1 = 3 := Int32.toInt_inj.mp (by rw [show (3 : Int32).toInt = 3 from by decide]; omega)
                    refine ⟨60000, 60000, (-1), jh2, jh2, ?_, ?_, by decide +kernel⟩
                    · refine Eq.trans (jr_s (pc2 := 1) (lv2 := [(0, .ref 9), (1, .int 3), (2, .int a2)]) (st2 := [.ref 9]) jF_92_0 rfl rfl) ?_
                      refine Eq.trans (jr_gf (v := .ref 20) jF_92_1 (by decide +kernel)) ?_
                      refine Eq.trans (jr_s (pc2 := 5) (lv2 := [(0, .ref 9), (1, .int 3), (2, .int a2)]) (st2 := [.int 3, .ref 20]) jF_92_4 rfl rfl) ?_
                      refine Eq.trans (jr_s (pc2 := 6) (lv2 := [(0, .ref 9), (1, .int 3), (2, .int a2)]) (st2 := [.int a2, .int 3, .ref 20]) jF_92_5 rfl rfl) ?_
                      refine Eq.trans (jr_cV (a := 20) (as := [.int 3, .int a2]) (rest := []) (v := some (.int (-1))) (hp2 := jh2) (fr2 := 499) (lo2 := 19978) jF_92_6 (by decide +kernel) rfl (show j_cnd 500 20000 499 19978 3 _ _ = true from rfl) ?_) ?_
                      · refine Eq.trans (jr_s (pc2 := 1) (lv2 := [(0, .ref 20), (1, .int 3), (2, .int a2)]) (st2 := [.int 3]) jF_93_0 rfl rfl) ?_
                        refine Eq.trans (jr_if0 jF_93_1 (by decide +kernel)) ?_
                        refine Eq.trans (jr_s (pc2 := 5) (lv2 := [(0, .ref 20), (1, .int 3), (2, .int a2)]) (st2 := [.int 3]) jF_93_4 rfl rfl) ?_
                        refine Eq.trans (jr_s (pc2 := 6) (lv2 := [(0, .ref 20), (1, .int 3), (2, .int a2)]) (st2 := [.ref 20, .int 3]) jF_93_5 rfl rfl) ?_
                        refine Eq.trans (jr_gf (v := .ref 21) jF_93_6 (by decide +kernel)) ?_
                        refine Eq.trans (jr_al (v := 25) jF_93_9 (by decide +kernel)) ?_
                        refine Eq.trans (jr_ic0 jF_93_10 (by decide +kernel)) ?_
                        refine Eq.trans (jr_s (pc2 := 14) (lv2 := [(0, .ref 20), (1, .int 3), (2, .int a2)]) (st2 := [.int a2]) jF_93_13 rfl rfl) ?_
                        refine Eq.trans (jr_if0 jF_93_14 (jk_lt_ge (show (0 : Int32).toInt ≤ (a2 : Int32).toInt by rw [show (0 : Int32).toInt = 0 from by decide]; omega))) ?_
                        refine Eq.trans (jr_s (pc2 := 18) (lv2 := [(0, .ref 20), (1, .int 3), (2, .int a2)]) (st2 := [.int a2]) jF_93_17 rfl rfl) ?_
                        refine Eq.trans (jr_s (pc2 := 20) (lv2 := [(0, .ref 20), (1, .int 3), (2, .int a2)]) (st2 := [.int 6, .int a2]) jF_93_18 rfl rfl) ?_
                        refine Eq.trans (jr_ic1 jF_93_20 (jk_ge_ge (show (6 : Int32).toInt ≤ (a2 : Int32).toInt by rw [show (6 : Int32).toInt = 6 from by decide]; omega))) ?_
                        refine Eq.trans (jr_s (pc2 := 33) (lv2 := [(0, .ref 20), (1, .int 3), (2, .int a2)]) (st2 := [.int (-1)]) jF_93_32 rfl rfl) ?_
                        exact jr_ri jF_93_33 rfl
                      exact jr_ri jF_92_9 rfl
                    · refine Eq.trans (jr_s (pc2 := 1) (lv2 := [(0, .ref 117), (1, .int 3), (2, .int a2)]) (st2 := [.ref 117]) jF_266_0 rfl rfl) ?_
                      refine Eq.trans (jr_s (pc2 := 2) (lv2 := [(0, .ref 117), (1, .int 3), (2, .int a2)]) (st2 := [.int 3, .ref 117]) jF_266_1 rfl rfl) ?_
                      refine Eq.trans (jr_cV (a := 117) (as := [.int 3]) (rest := []) (v := some (.long 0)) (hp2 := jh2) (fr2 := 499) (lo2 := 19979) jF_266_2 (by decide +kernel) rfl (show j_cnd 500 20000 499 19979 2 _ _ = true from rfl) ?_) ?_
                      · refine Eq.trans (jr_s (pc2 := 1) (lv2 := [(0, .ref 117), (1, .int 3)]) (st2 := [.int 3]) jF_267_0 rfl rfl) ?_
                        refine Eq.trans (jr_s (pc2 := 2) (lv2 := [(0, .ref 117), (1, .int 3)]) (st2 := [.long 3]) jF_267_1 rfl rfl) ?_
                        refine Eq.trans (jr_s (pc2 := 3) (lv2 := [(0, .ref 117), (1, .int 3)]) (st2 := [.long 0, .long 3]) jF_267_2 rfl rfl) ?_
                        refine Eq.trans (jr_s (pc2 := 6) (lv2 := [(0, .ref 117), (1, .int 3)]) (st2 := [.long 17, .long 0, .long 3]) jF_267_3 rfl rfl) ?_
                        refine Eq.trans (jr_cS (as := [.long 3, .long 0, .long 17]) (rest := []) (v := some (.int 1)) (hp2 := jh2) (fr2 := 498) (lo2 := 19954) jF_267_6 rfl (show j_cnd 499 19979 498 19954 6 _ _ = true from rfl) ?_) ?_
                        · refine Eq.trans (jr_s (pc2 := 1) (lv2 := [(0, .long 3), (2, .long 0), (4, .long 17)]) (st2 := [.long 3]) jF_232_0 rfl rfl) ?_
                          refine Eq.trans (jr_s (pc2 := 2) (lv2 := [(0, .long 3), (2, .long 0), (4, .long 17)]) (st2 := [.long 0, .long 3]) jF_232_1 rfl rfl) ?_
                          refine Eq.trans (jr_s (pc2 := 3) (lv2 := [(0, .long 3), (2, .long 0), (4, .long 17)]) (st2 := [.int 1]) jF_232_2 rfl rfl) ?_
                          refine Eq.trans (jr_if0 jF_232_3 (by decide +kernel)) ?_
                          refine Eq.trans (jr_s (pc2 := 7) (lv2 := [(0, .long 3), (2, .long 0), (4, .long 17)]) (st2 := [.long 3]) jF_232_6 rfl rfl) ?_
                          refine Eq.trans (jr_s (pc2 := 9) (lv2 := [(0, .long 3), (2, .long 0), (4, .long 17)]) (st2 := [.long 17, .long 3]) jF_232_7 rfl rfl) ?_
                          refine Eq.trans (jr_s (pc2 := 10) (lv2 := [(0, .long 3), (2, .long 0), (4, .long 17)]) (st2 := [.int (-1)]) jF_232_9 rfl rfl) ?_
                          refine Eq.trans (jr_if0 jF_232_10 (by decide +kernel)) ?_
                          refine Eq.trans (jr_s (pc2 := 14) (lv2 := [(0, .long 3), (2, .long 0), (4, .long 17)]) (st2 := [.int 1]) jF_232_13 rfl rfl) ?_
                          refine Eq.trans (jr_s (pc2 := 18) (lv2 := [(0, .long 3), (2, .long 0), (4, .long 17)]) (st2 := [.int 1]) jF_232_14 rfl rfl) ?_
                          exact jr_ri jF_232_18 rfl
                        refine Eq.trans (jr_if0 jF_267_9 (by decide +kernel)) ?_
                        refine Eq.trans (jr_s (pc2 := 13) (lv2 := [(0, .ref 117), (1, .int 3)]) (st2 := [.ref 117]) jF_267_12 rfl rfl) ?_
                        refine Eq.trans (jr_gf (v := .ref 138) jF_267_13 (by decide +kernel)) ?_
                        refine Eq.trans (jr_s (pc2 := 18) (lv2 := [(0, .ref 117), (1, .int 3)]) (st2 := [.int 18, .ref 138]) jF_267_16 rfl rfl) ?_
                        refine Eq.trans (jr_s (pc2 := 19) (lv2 := [(0, .ref 117), (1, .int 3)]) (st2 := [.int 3, .int 18, .ref 138]) jF_267_18 rfl rfl) ?_
                        refine Eq.trans (jr_s (pc2 := 20) (lv2 := [(0, .ref 117), (1, .int 3)]) (st2 := [.int 21, .ref 138]) jF_267_19 rfl rfl) ?_
                        refine Eq.trans (jr_ldl (v := .long 0) jF_267_20 (by decide +kernel)) ?_
                        exact jr_rl jF_267_21
                      refine Eq.trans (jr_s (pc2 := 6) (lv2 := [(3, .long 0), (0, .ref 117), (1, .int 3), (2, .int a2)]) (st2 := []) jF_266_5 rfl rfl) ?_
                      refine Eq.trans (jr_s (pc2 := 7) (lv2 := [(3, .long 0), (0, .ref 117), (1, .int 3), (2, .int a2)]) (st2 := [.long 0]) jF_266_6 rfl rfl) ?_
                      refine Eq.trans (jr_s (pc2 := 8) (lv2 := [(3, .long 0), (0, .ref 117), (1, .int 3), (2, .int a2)]) (st2 := [.long 0, .long 0]) jF_266_7 rfl rfl) ?_
                      refine Eq.trans (jr_s (pc2 := 9) (lv2 := [(3, .long 0), (0, .ref 117), (1, .int 3), (2, .int a2)]) (st2 := [.int 0]) jF_266_8 rfl rfl) ?_
                      refine Eq.trans (jr_if1 jF_266_9 (by decide +kernel)) ?_
                      refine Eq.trans (jr_s (pc2 := 25) (lv2 := [(3, .long 0), (0, .ref 117), (1, .int 3), (2, .int a2)]) (st2 := [.int (-1)]) jF_266_24 rfl rfl) ?_
                      exact jr_ri jF_266_25 rfl
                  · rcases j_ilt a1.toInt 5 with h_a1_5 | h_a1_5
                    · obtain rfl : a1 = 4 := Int32.toInt_inj.mp (by rw [show (4 : Int32).toInt = 4 from by decide]; omega)
                      refine ⟨60000, 60000, (-1), jh2, jh2, ?_, ?_, by decide +kernel⟩
                      · refine Eq.trans (jr_s (pc2 := 1) (lv2 := [(0, .ref 9), (1, .int 4), (2, .int a2)]) (st2 := [.ref 9]) jF_92_0 rfl rfl) ?_
                        refine Eq.trans (jr_gf (v := .ref 20) jF_92_1 (by decide +kernel)) ?_
                        refine Eq.trans (jr_s (pc2 := 5) (lv2 := [(0, .ref 9), (1, .int 4), (2, .int a2)]) (st2 := [.int 4, .ref 20]) jF_92_4 rfl rfl) ?_
                        refine Eq.trans (jr_s (pc2 := 6) (lv2 := [(0, .ref 9), (1, .int 4), (2, .int a2)]) (st2 := [.int a2, .int 4, .ref 20]) jF_92_5 rfl rfl) ?_
                        refine Eq.trans (jr_cV (a := 20) (as := [.int 4, .int a2]) (rest := []) (v := some (.int (-1))) (hp2 := jh2) (fr2 := 499) (lo2 := 19978) jF_92_6 (by decide +kernel) rfl (show j_cnd 500 20000 499 19978 3 _ _ = true from rfl) ?_) ?_
                        · refine Eq.trans (jr_s (pc2 := 1) (lv2 := [(0, .ref 20), (1, .int 4), (2, .int a2)]) (st2 := [.int 4]) jF_93_0 rfl rfl) ?_
                          refine Eq.trans (jr_if0 jF_93_1 (by decide +kernel)) ?_
                          refine Eq.trans (jr_s (pc2 := 5) (lv2 := [(0, .ref 20), (1, .int 4), (2, .int a2)]) (st2 := [.int 4]) jF_93_4 rfl rfl) ?_
                          refine Eq.trans (jr_s (pc2 := 6) (lv2 := [(0, .ref 20), (1, .int 4), (2, .int a2)]) (st2 := [.ref 20, .int 4]) jF_93_5 rfl rfl) ?_
                          refine Eq.trans (jr_gf (v := .ref 21) jF_93_6 (by decide +kernel)) ?_
                          refine Eq.trans (jr_al (v := 25) jF_93_9 (by decide +kernel)) ?_
                          refine Eq.trans (jr_ic0 jF_93_10 (by decide +kernel)) ?_
                          refine Eq.trans (jr_s (pc2 := 14) (lv2 := [(0, .ref 20), (1, .int 4), (2, .int a2)]) (st2 := [.int a2]) jF_93_13 rfl rfl) ?_
                          refine Eq.trans (jr_if0 jF_93_14 (jk_lt_ge (show (0 : Int32).toInt ≤ (a2 : Int32).toInt by rw [show (0 : Int32).toInt = 0 from by decide]; omega))) ?_
                          refine Eq.trans (jr_s (pc2 := 18) (lv2 := [(0, .ref 20), (1, .int 4), (2, .int a2)]) (st2 := [.int a2]) jF_93_17 rfl rfl) ?_
                          refine Eq.trans (jr_s (pc2 := 20) (lv2 := [(0, .ref 20), (1, .int 4), (2, .int a2)]) (st2 := [.int 6, .int a2]) jF_93_18 rfl rfl) ?_
                          refine Eq.trans (jr_ic1 jF_93_20 (jk_ge_ge (show (6 : Int32).toInt ≤ (a2 : Int32).toInt by rw [show (6 : Int32).toInt = 6 from by decide]; omega))) ?_
                          refine Eq.trans (jr_s (pc2 := 33) (lv2 := [(0, .ref 20), (1, .int 4), (2, .int a2)]) (st2 := [.int (-1)]) jF_93_32 rfl rfl) ?_
                          exact jr_ri jF_93_33 rfl
                        exact jr_ri jF_92_9 rfl
                      · refine Eq.trans (jr_s (pc2 := 1) (lv2 := [(0, .ref 117), (1, .int 4), (2, .int a2)]) (st2 := [.ref 117]) jF_266_0 rfl rfl) ?_
                        refine Eq.trans (jr_s (pc2 := 2) (lv2 := [(0, .ref 117), (1, .int 4), (2, .int a2)]) (st2 := [.int 4, .ref 117]) jF_266_1 rfl rfl) ?_
                        refine Eq.trans (jr_cV (a := 117) (as := [.int 4]) (rest := []) (v := some (.long 0)) (hp2 := jh2) (fr2 := 499) (lo2 := 19979) jF_266_2 (by decide +kernel) rfl (show j_cnd 500 20000 499 19979 2 _ _ = true from rfl) ?_) ?_
                        · refine Eq.trans (jr_s (pc2 := 1) (lv2 := [(0, .ref 117), (1, .int 4)]) (st2 := [.int 4]) jF_267_0 rfl rfl) ?_
                          refine Eq.trans (jr_s (pc2 := 2) (lv2 := [(0, .ref 117), (1, .int 4)]) (st2 := [.long 4]) jF_267_1 rfl rfl) ?_
                          refine Eq.trans (jr_s (pc2 := 3) (lv2 := [(0, .ref 117), (1, .int 4)]) (st2 := [.long 0, .long 4]) jF_267_2 rfl rfl) ?_
                          refine Eq.trans (jr_s (pc2 := 6) (lv2 := [(0, .ref 117), (1, .int 4)]) (st2 := [.long 17, .long 0, .long 4]) jF_267_3 rfl rfl) ?_
                          refine Eq.trans (jr_cS (as := [.long 4, .long 0, .long 17]) (rest := []) (v := some (.int 1)) (hp2 := jh2) (fr2 := 498) (lo2 := 19954) jF_267_6 rfl (show j_cnd 499 19979 498 19954 6 _ _ = true from rfl) ?_) ?_
                          · refine Eq.trans (jr_s (pc2 := 1) (lv2 := [(0, .long 4), (2, .long 0), (4, .long 17)]) (st2 := [.long 4]) jF_232_0 rfl rfl) ?_
                            refine Eq.trans (jr_s (pc2 := 2) (lv2 := [(0, .long 4), (2, .long 0), (4, .long 17)]) (st2 := [.long 0, .long 4]) jF_232_1 rfl rfl) ?_
                            refine Eq.trans (jr_s (pc2 := 3) (lv2 := [(0, .long 4), (2, .long 0), (4, .long 17)]) (st2 := [.int 1]) jF_232_2 rfl rfl) ?_
                            refine Eq.trans (jr_if0 jF_232_3 (by decide +kernel)) ?_
                            refine Eq.trans (jr_s (pc2 := 7) (lv2 := [(0, .long 4), (2, .long 0), (4, .long 17)]) (st2 := [.long 4]) jF_232_6 rfl rfl) ?_
                            refine Eq.trans (jr_s (pc2 := 9) (lv2 := [(0, .long 4), (2, .long 0), (4, .long 17)]) (st2 := [.long 17, .long 4]) jF_232_7 rfl rfl) ?_
                            refine Eq.trans (jr_s (pc2 := 10) (lv2 := [(0, .long 4), (2, .long 0), (4, .long 17)]) (st2 := [.int (-1)]) jF_232_9 rfl rfl) ?_
                            refine Eq.trans (jr_if0 jF_232_10 (by decide +kernel)) ?_
                            refine Eq.trans (jr_s (pc2 := 14) (lv2 := [(0, .long 4), (2, .long 0), (4, .long 17)]) (st2 := [.int 1]) jF_232_13 rfl rfl) ?_
                            refine Eq.trans (jr_s (pc2 := 18) (lv2 := [(0, .long 4), (2, .long 0), (4, .long 17)]) (st2 := [.int 1]) jF_232_14 rfl rfl) ?_
                            exact jr_ri jF_232_18 rfl
                          refine Eq.trans (jr_if0 jF_267_9 (by decide +kernel)) ?_
                          refine Eq.trans (jr_s (pc2 := 13) (lv2 := [(0, .ref 117), (1, .int 4)]) (st2 := [.ref 117]) jF_267_12 rfl rfl) ?_
                          refine Eq.trans (jr_gf (v := .ref 138) jF_267_13 (by decide +kernel)) ?_
                          refine Eq.trans (jr_s (pc2 := 18) (lv2 := [(0, .ref 117), (1, .int 4)]) (st2 := [.int 18, .ref 138]) jF_267_16 rfl rfl) ?_
                          refine Eq.trans (jr_s (pc2 := 19) (lv2 := [(0, .ref 117), (1, .int 4)]) (st2 := [.int 4, .int 18, .ref 138]) jF_267_18 rfl rfl) ?_
                          refine Eq.trans (jr_s (pc2 := 20) (lv2 := [(0, .ref 117), (1, .int 4)]) (st2 := [.int 22, .ref 138]) jF_267_19 rfl rfl) ?_
                          refine Eq.trans (jr_ldl (v := .long 0) jF_267_20 (by decide +kernel)) ?_
                          exact jr_rl jF_267_21
                        refine Eq.trans (jr_s (pc2 := 6) (lv2 := [(3, .long 0), (0, .ref 117), (1, .int 4), (2, .int a2)]) (st2 := []) jF_266_5 rfl rfl) ?_
                        refine Eq.trans (jr_s (pc2 := 7) (lv2 := [(3, .long 0), (0, .ref 117), (1, .int 4), (2, .int a2)]) (st2 := [.long 0]) jF_266_6 rfl rfl) ?_
                        refine Eq.trans (jr_s (pc2 := 8) (lv2 := [(3, .long 0), (0, .ref 117), (1, .int 4), (2, .int a2)]) (st2 := [.long 0, .long 0]) jF_266_7 rfl rfl) ?_
                        refine Eq.trans (jr_s (pc2 := 9) (lv2 := [(3, .long 0), (0, .ref 117), (1, .int 4), (2, .int a2)]) (st2 := [.int 0]) jF_266_8 rfl rfl) ?_
                        refine Eq.trans (jr_if1 jF_266_9 (by decide +kernel)) ?_
                        refine Eq.trans (jr_s (pc2 := 25) (lv2 := [(3, .long 0), (0, .ref 117), (1, .int 4), (2, .int a2)]) (st2 := [.int (-1)]) jF_266_24 rfl rfl) ?_
                        exact jr_ri jF_266_25 rfl
                    · rcases j_ilt a1.toInt 6 with h_a1_6 | h_a1_6
                      · obtain rfl : a1 = 5 := Int32.toInt_inj.mp (by rw [show (5 : Int32).toInt = 5 from by decide]; omega)
                        refine ⟨60000, 60000, (-1), jh2, jh2, ?_, ?_, by decide +kernel⟩
                        · refine Eq.trans (jr_s (pc2 := 1) (lv2 := [(0, .ref 9), (1, .int 5), (2, .int a2)]) (st2 := [.ref 9]) jF_92_0 rfl rfl) ?_
                          refine Eq.trans (jr_gf (v := .ref 20) jF_92_1 (by decide +kernel)) ?_
                          refine Eq.trans (jr_s (pc2 := 5) (lv2 := [(0, .ref 9), (1, .int 5), (2, .int a2)]) (st2 := [.int 5, .ref 20]) jF_92_4 rfl rfl) ?_
                          refine Eq.trans (jr_s (pc2 := 6) (lv2 := [(0, .ref 9), (1, .int 5), (2, .int a2)]) (st2 := [.int a2, .int 5, .ref 20]) jF_92_5 rfl rfl) ?_
                          refine Eq.trans (jr_cV (a := 20) (as := [.int 5, .int a2]) (rest := []) (v := some (.int (-1))) (hp2 := jh2) (fr2 := 499) (lo2 := 19978) jF_92_6 (by decide +kernel) rfl (show j_cnd 500 20000 499 19978 3 _ _ = true from rfl) ?_) ?_
                          · refine Eq.trans (jr_s (pc2 := 1) (lv2 := [(0, .ref 20), (1, .int 5), (2, .int a2)]) (st2 := [.int 5]) jF_93_0 rfl rfl) ?_
                            refine Eq.trans (jr_if0 jF_93_1 (by decide +kernel)) ?_
                            refine Eq.trans (jr_s (pc2 := 5) (lv2 := [(0, .ref 20), (1, .int 5), (2, .int a2)]) (st2 := [.int 5]) jF_93_4 rfl rfl) ?_
                            refine Eq.trans (jr_s (pc2 := 6) (lv2 := [(0, .ref 20), (1, .int 5), (2, .int a2)]) (st2 := [.ref 20, .int 5]) jF_93_5 rfl rfl) ?_
                            refine Eq.trans (jr_gf (v := .ref 21) jF_93_6 (by decide +kernel)) ?_
                            refine Eq.trans (jr_al (v := 25) jF_93_9 (by decide +kernel)) ?_
                            refine Eq.trans (jr_ic0 jF_93_10 (by decide +kernel)) ?_
                            refine Eq.trans (jr_s (pc2 := 14) (lv2 := [(0, .ref 20), (1, .int 5), (2, .int a2)]) (st2 := [.int a2]) jF_93_13 rfl rfl) ?_
                            refine Eq.trans (jr_if0 jF_93_14 (jk_lt_ge (show (0 : Int32).toInt ≤ (a2 : Int32).toInt by rw [show (0 : Int32).toInt = 0 from by decide]; omega))) ?_
                            refine Eq.trans (jr_s (pc2 := 18) (lv2 := [(0, .ref 20), (1, .int 5), (2, .int a2)]) (st2 := [.int a2]) jF_93_17 rfl rfl) ?_
                            refine Eq.trans (jr_s (pc2 := 20) (lv2 := [(0, .ref 20), (1, .int 5), (2, .int a2)]) (st2 := [.int 6, .int a2]) jF_93_18 rfl rfl) ?_
                            refine Eq.trans (jr_ic1 jF_93_20 (jk_ge_ge (show (6 : Int32).toInt ≤ (a2 : Int32).toInt by rw [show (6 : Int32).toInt = 6 from by decide]; omega))) ?_
                            refine Eq.trans (jr_s (pc2 := 33) (lv2 := [(0, .ref 20), (1, .int 5), (2, .int a2)]) (st2 := [.int (-1)]) jF_93_32 rfl rfl) ?_
                            exact jr_ri jF_93_33 rfl
                          exact jr_ri jF_92_9 rfl
                        · refine Eq.trans (jr_s (pc2 := 1) (lv2 := [(0, .ref 117), (1, .int 5), (2, .int a2)]) (st2 := [.ref 117]) jF_266_0 rfl rfl) ?_
                          refine Eq.trans (jr_s (pc2 := 2) (lv2 := [(0, .ref 117), (1, .int 5), (2, .int a2)]) (st2 := [.int 5, .ref 117]) jF_266_1 rfl rfl) ?_
                          refine Eq.trans (jr_cV (a := 117) (as := [.int 5]) (rest := []) (v := some (.long 0)) (hp2 := jh2) (fr2 := 499) (lo2 := 19979) jF_266_2 (by decide +kernel) rfl (show j_cnd 500 20000 499 19979 2 _ _ = true from rfl) ?_) ?_
                          · refine Eq.trans (jr_s (pc2 := 1) (lv2 := [(0, .ref 117), (1, .int 5)]) (st2 := [.int 5]) jF_267_0 rfl rfl) ?_
                            refine Eq.trans (jr_s (pc2 := 2) (lv2 := [(0, .ref 117), (1, .int 5)]) (st2 := [.long 5]) jF_267_1 rfl rfl) ?_
                            refine Eq.trans (jr_s (pc2 := 3) (lv2 := [(0, .ref 117), (1, .int 5)]) (st2 := [.long 0, .long 5]) jF_267_2 rfl rfl) ?_
                            refine Eq.trans (jr_s (pc2 := 6) (lv2 := [(0, .ref 117), (1, .int 5)]) (st2 := [.long 17, .long 0, .long 5]) jF_267_3 rfl rfl) ?_
                            refine Eq.trans (jr_cS (as := [.long 5, .long 0, .long 17]) (rest := []) (v := some (.int 1)) (hp2 := jh2) (fr2 := 498) (lo2 := 19954) jF_267_6 rfl (show j_cnd 499 19979 498 19954 6 _ _ = true from rfl) ?_) ?_
                            · refine Eq.trans (jr_s (pc2 := 1) (lv2 := [(0, .long 5), (2, .long 0), (4, .long 17)]) (st2 := [.long 5]) jF_232_0 rfl rfl) ?_
                              refine Eq.trans (jr_s (pc2 := 2) (lv2 := [(0, .long 5), (2, .long 0), (4, .long 17)]) (st2 := [.long 0, .long 5]) jF_232_1 rfl rfl) ?_
                              refine Eq.trans (jr_s (pc2 := 3) (lv2 := [(0, .long 5), (2, .long 0), (4, .long 17)]) (st2 := [.int 1]) jF_232_2 rfl rfl) ?_
                              refine Eq.trans (jr_if0 jF_232_3 (by decide +kernel)) ?_
                              refine Eq.trans (jr_s (pc2 := 7) (lv2 := [(0, .long 5), (2, .long 0), (4, .long 17)]) (st2 := [.long 5]) jF_232_6 rfl rfl) ?_
                              refine Eq.trans (jr_s (pc2 := 9) (lv2 := [(0, .long 5), (2, .long 0), (4, .long 17)]) (st2 := [.long 17, .long 5]) jF_232_7 rfl rfl) ?_
                              refine Eq.trans (jr_s (pc2 := 10) (lv2 := [(0, .long 5), (2, .long 0), (4, .long 17)]) (st2 := [.int (-1)]) jF_232_9 rfl rfl) ?_
                              refine Eq.trans (jr_if0 jF_232_10 (by decide +kernel)) ?_
                              refine Eq.trans (jr_s (pc2 := 14) (lv2 := [(0, .long 5), (2, .long 0), (4, .long 17)]) (st2 := [.int 1]) jF_232_13 rfl rfl) ?_
                              refine Eq.trans (jr_s (pc2 := 18) (lv2 := [(0, .long 5), (2, .long 0), (4, .long 17)]) (st2 := [.int 1]) jF_232_14 rfl rfl) ?_
                              exact jr_ri jF_232_18 rfl
                            refine Eq.trans (jr_if0 jF_267_9 (by decide +kernel)) ?_
                            refine Eq.trans (jr_s (pc2 := 13) (lv2 := [(0, .ref 117), (1, .int 5)]) (st2 := [.ref 117]) jF_267_12 rfl rfl) ?_
                            refine Eq.trans (jr_gf (v := .ref 138) jF_267_13 (by decide +kernel)) ?_
                            refine Eq.trans (jr_s (pc2 := 18) (lv2 := [(0, .ref 117), (1, .int 5)]) (st2 := [.int 18, .ref 138]) jF_267_16 rfl rfl) ?_
                            refine Eq.trans (jr_s (pc2 := 19) (lv2 := [(0, .ref 117), (1, .int 5)]) (st2 := [.int 5, .int 18, .ref 138]) jF_267_18 rfl rfl) ?_
                            refine Eq.trans (jr_s (pc2 := 20) (lv2 := [(0, .ref 117), (1, .int 5)]) (st2 := [.int 23, .ref 138]) jF_267_19 rfl rfl) ?_
                            refine Eq.trans (jr_ldl (v := .long 0) jF_267_20 (by decide +kernel)) ?_
                            exact jr_rl jF_267_21
                          refine Eq.trans (jr_s (pc2 := 6) (lv2 := [(3, .long 0), (0, .ref 117), (1, .int 5), (2, .int a2)]) (st2 := []) jF_266_5 rfl rfl) ?_
                          refine Eq.trans (jr_s (pc2 := 7) (lv2 := [(3, .long 0), (0, .ref 117), (1, .int 5), (2, .int a2)]) (st2 := [.long 0]) jF_266_6 rfl rfl) ?_
                          refine Eq.trans (jr_s (pc2 := 8) (lv2 := [(3, .long 0), (0, .ref 117), (1, .int 5), (2, .int a2)]) (st2 := [.long 0, .long 0]) jF_266_7 rfl rfl) ?_
                          refine Eq.trans (jr_s (pc2 := 9) (lv2 := [(3, .long 0), (0, .ref 117), (1, .int 5), (2, .int a2)]) (st2 := [.int 0]) jF_266_8 rfl rfl) ?_
                          refine Eq.trans (jr_if1 jF_266_9 (by decide +kernel)) ?_
                          refine Eq.trans (jr_s (pc2 := 25) (lv2 := [(3, .long 0), (0, .ref 117), (1, .int 5), (2, .int a2)]) (st2 := [.int (-1)]) jF_266_24 rfl rfl) ?_
                          exact jr_ri jF_266_25 rfl
                      · rcases j_ilt a1.toInt 7 with h_a1_7 | h_a1_7
                        · obtain rfl : a1 = 6 := Int32.toInt_inj.mp (by rw [show (6 : Int32).toInt = 6 from by decide]; omega)
                          refine ⟨60000, 60000, (-1), jh2, jh2, ?_, ?_, by decide +kernel⟩
                          · refine Eq.trans (jr_s (pc2 := 1) (lv2 := [(0, .ref 9), (1, .int 6), (2, .int a2)]) (st2 := [.ref 9]) jF_92_0 rfl rfl) ?_
                            refine Eq.trans (jr_gf (v := .ref 20) jF_92_1 (by decide +kernel)) ?_
                            refine Eq.trans (jr_s (pc2 := 5) (lv2 := [(0, .ref 9), (1, .int 6), (2, .int a2)]) (st2 := [.int 6, .ref 20]) jF_92_4 rfl rfl) ?_
                            refine Eq.trans (jr_s (pc2 := 6) (lv2 := [(0, .ref 9), (1, .int 6), (2, .int a2)]) (st2 := [.int a2, .int 6, .ref 20]) jF_92_5 rfl rfl) ?_
                            refine Eq.trans (jr_cV (a := 20) (as := [.int 6, .int a2]) (rest := []) (v := some (.int (-1))) (hp2 := jh2) (fr2 := 499) (lo2 := 19978) jF_92_6 (by decide +kernel) rfl (show j_cnd 500 20000 499 19978 3 _ _ = true from rfl) ?_) ?_
                            · refine Eq.trans (jr_s (pc2 := 1) (lv2 := [(0, .ref 20), (1, .int 6), (2, .int a2)]) (st2 := [.int 6]) jF_93_0 rfl rfl) ?_
                              refine Eq.trans (jr_if0 jF_93_1 (by decide +kernel)) ?_
                              refine Eq.trans (jr_s (pc2 := 5) (lv2 := [(0, .ref 20), (1, .int 6), (2, .int a2)]) (st2 := [.int 6]) jF_93_4 rfl rfl) ?_
                              refine Eq.trans (jr_s (pc2 := 6) (lv2 := [(0, .ref 20), (1, .int 6), (2, .int a2)]) (st2 := [.ref 20, .int 6]) jF_93_5 rfl rfl) ?_
                              refine Eq.trans (jr_gf (v := .ref 21) jF_93_6 (by decide +kernel)) ?_
                              refine Eq.trans (jr_al (v := 25) jF_93_9 (by decide +kernel)) ?_
                              refine Eq.trans (jr_ic0 jF_93_10 (by decide +kernel)) ?_
                              refine Eq.trans (jr_s (pc2 := 14) (lv2 := [(0, .ref 20), (1, .int 6), (2, .int a2)]) (st2 := [.int a2]) jF_93_13 rfl rfl) ?_
                              refine Eq.trans (jr_if0 jF_93_14 (jk_lt_ge (show (0 : Int32).toInt ≤ (a2 : Int32).toInt by rw [show (0 : Int32).toInt = 0 from by decide]; omega))) ?_
                              refine Eq.trans (jr_s (pc2 := 18) (lv2 := [(0, .ref 20), (1, .int 6), (2, .int a2)]) (st2 := [.int a2]) jF_93_17 rfl rfl) ?_
                              refine Eq.trans (jr_s (pc2 := 20) (lv2 := [(0, .ref 20), (1, .int 6), (2, .int a2)]) (st2 := [.int 6, .int a2]) jF_93_18 rfl rfl) ?_
                              refine Eq.trans (jr_ic1 jF_93_20 (jk_ge_ge (show (6 : Int32).toInt ≤ (a2 : Int32).toInt by rw [show (6 : Int32).toInt = 6 from by decide]; omega))) ?_
                              refine Eq.trans (jr_s (pc2 := 33) (lv2 := [(0, .ref 20), (1, .int 6), (2, .int a2)]) (st2 := [.int (-1)]) jF_93_32 rfl rfl) ?_
                              exact jr_ri jF_93_33 rfl
                            exact jr_ri jF_92_9 rfl
                          · refine Eq.trans (jr_s (pc2 := 1) (lv2 := [(0, .ref 117), (1, .int 6), (2, .int a2)]) (st2 := [.ref 117]) jF_266_0 rfl rfl) ?_
                            refine Eq.trans (jr_s (pc2 := 2) (lv2 := [(0, .ref 117), (1, .int 6), (2, .int a2)]) (st2 := [.int 6, .ref 117]) jF_266_1 rfl rfl) ?_
                            refine Eq.trans (jr_cV (a := 117) (as := [.int 6]) (rest := []) (v := some (.long 0)) (hp2 := jh2) (fr2 := 499) (lo2 := 19979) jF_266_2 (by decide +kernel) rfl (show j_cnd 500 20000 499 19979 2 _ _ = true from rfl) ?_) ?_
                            · refine Eq.trans (jr_s (pc2 := 1) (lv2 := [(0, .ref 117), (1, .int 6)]) (st2 := [.int 6]) jF_267_0 rfl rfl) ?_
                              refine Eq.trans (jr_s (pc2 := 2) (lv2 := [(0, .ref 117), (1, .int 6)]) (st2 := [.long 6]) jF_267_1 rfl rfl) ?_
                              refine Eq.trans (jr_s (pc2 := 3) (lv2 := [(0, .ref 117), (1, .int 6)]) (st2 := [.long 0, .long 6]) jF_267_2 rfl rfl) ?_
                              refine Eq.trans (jr_s (pc2 := 6) (lv2 := [(0, .ref 117), (1, .int 6)]) (st2 := [.long 17, .long 0, .long 6]) jF_267_3 rfl rfl) ?_
                              refine Eq.trans (jr_cS (as := [.long 6, .long 0, .long 17]) (rest := []) (v := some (.int 1)) (hp2 := jh2) (fr2 := 498) (lo2 := 19954) jF_267_6 rfl (show j_cnd 499 19979 498 19954 6 _ _ = true from rfl) ?_) ?_
                              · refine Eq.trans (jr_s (pc2 := 1) (lv2 := [(0, .long 6), (2, .long 0), (4, .long 17)]) (st2 := [.long 6]) jF_232_0 rfl rfl) ?_
                                refine Eq.trans (jr_s (pc2 := 2) (lv2 := [(0, .long 6), (2, .long 0), (4, .long 17)]) (st2 := [.long 0, .long 6]) jF_232_1 rfl rfl) ?_
                                refine Eq.trans (jr_s (pc2 := 3) (lv2 := [(0, .long 6), (2, .long 0), (4, .long 17)]) (st2 := [.int 1]) jF_232_2 rfl rfl) ?_
                                refine Eq.trans (jr_if0 jF_232_3 (by decide +kernel)) ?_
                                refine Eq.trans (jr_s (pc2 := 7) (lv2 := [(0, .long 6), (2, .long 0), (4, .long 17)]) (st2 := [.long 6]) jF_232_6 rfl rfl) ?_
                                refine Eq.trans (jr_s (pc2 := 9) (lv2 := [(0, .long 6), (2, .long 0), (4, .long 17)]) (st2 := [.long 17, .long 6]) jF_232_7 rfl rfl) ?_
                                refine Eq.trans (jr_s (pc2 := 10) (lv2 := [(0, .long 6), (2, .long 0), (4, .long 17)]) (st2 := [.int (-1)]) jF_232_9 rfl rfl) ?_
                                refine Eq.trans (jr_if0 jF_232_10 (by decide +kernel)) ?_
                                refine Eq.trans (jr_s (pc2 := 14) (lv2 := [(0, .long 6), (2, .long 0), (4, .long 17)]) (st2 := [.int 1]) jF_232_13 rfl rfl) ?_
                                refine Eq.trans (jr_s (pc2 := 18) (lv2 := [(0, .long 6), (2, .long 0), (4, .long 17)]) (st2 := [.int 1]) jF_232_14 rfl rfl) ?_
                                exact jr_ri jF_232_18 rfl
                              refine Eq.trans (jr_if0 jF_267_9 (by decide +kernel)) ?_
                              refine Eq.trans (jr_s (pc2 := 13) (lv2 := [(0, .ref 117), (1, .int 6)]) (st2 := [.ref 117]) jF_267_12 rfl rfl) ?_
                              refine Eq.trans (jr_gf (v := .ref 138) jF_267_13 (by decide +kernel)) ?_
                              refine Eq.trans (jr_s (pc2 := 18) (lv2 := [(0, .ref 117), (1, .int 6)]) (st2 := [.int 18, .ref 138]) jF_267_16 rfl rfl) ?_
                              refine Eq.trans (jr_s (pc2 := 19) (lv2 := [(0, .ref 117), (1, .int 6)]) (st2 := [.int 6, .int 18, .ref 138]) jF_267_18 rfl rfl) ?_
                              refine Eq.trans (jr_s (pc2 := 20) (lv2 := [(0, .ref 117), (1, .int 6)]) (st2 := [.int 24, .ref 138]) jF_267_19 rfl rfl) ?_
                              refine Eq.trans (jr_ldl (v := .long 0) jF_267_20 (by decide +kernel)) ?_
                              exact jr_rl jF_267_21
                            refine Eq.trans (jr_s (pc2 := 6) (lv2 := [(3, .long 0), (0, .ref 117), (1, .int 6), (2, .int a2)]) (st2 := []) jF_266_5 rfl rfl) ?_
                            refine Eq.trans (jr_s (pc2 := 7) (lv2 := [(3, .long 0), (0, .ref 117), (1, .int 6), (2, .int a2)]) (st2 := [.long 0]) jF_266_6 rfl rfl) ?_
                            refine Eq.trans (jr_s (pc2 := 8) (lv2 := [(3, .long 0), (0, .ref 117), (1, .int 6), (2, .int a2)]) (st2 := [.long 0, .long 0]) jF_266_7 rfl rfl) ?_
                            refine Eq.trans (jr_s (pc2 := 9) (lv2 := [(3, .long 0), (0, .ref 117), (1, .int 6), (2, .int a2)]) (st2 := [.int 0]) jF_266_8 rfl rfl) ?_
                            refine Eq.trans (jr_if1 jF_266_9 (by decide +kernel)) ?_
                            refine Eq.trans (jr_s (pc2 := 25) (lv2 := [(3, .long 0), (0, .ref 117), (1, .int 6), (2, .int a2)]) (st2 := [.int (-1)]) jF_266_24 rfl rfl) ?_
                            exact jr_ri jF_266_25 rfl
                        · rcases j_ilt a1.toInt 8 with h_a1_8 | h_a1_8
                          · obtain rfl : a1 = 7 := Int32.toInt_inj.mp (by rw [show (7 : Int32).toInt = 7 from by decide]; omega)
                            refine ⟨60000, 60000, (-1), jh2, jh2, ?_, ?_, by decide +kernel⟩
                            · refine Eq.trans (jr_s (pc2 := 1) (lv2 := [(0, .ref 9), (1, .int 7), (2, .int a2)]) (st2 := [.ref 9]) jF_92_0 rfl rfl) ?_
                              refine Eq.trans (jr_gf (v := .ref 20) jF_92_1 (by decide +kernel)) ?_
                              refine Eq.trans (jr_s (pc2 := 5) (lv2 := [(0, .ref 9), (1, .int 7), (2, .int a2)]) (st2 := [.int 7, .ref 20]) jF_92_4 rfl rfl) ?_
                              refine Eq.trans (jr_s (pc2 := 6) (lv2 := [(0, .ref 9), (1, .int 7), (2, .int a2)]) (st2 := [.int a2, .int 7, .ref 20]) jF_92_5 rfl rfl) ?_
                              refine Eq.trans (jr_cV (a := 20) (as := [.int 7, .int a2]) (rest := []) (v := some (.int (-1))) (hp2 := jh2) (fr2 := 499) (lo2 := 19978) jF_92_6 (by decide +kernel) rfl (show j_cnd 500 20000 499 19978 3 _ _ = true from rfl) ?_) ?_
                              · refine Eq.trans (jr_s (pc2 := 1) (lv2 := [(0, .ref 20), (1, .int 7), (2, .int a2)]) (st2 := [.int 7]) jF_93_0 rfl rfl) ?_
                                refine Eq.trans (jr_if0 jF_93_1 (by decide +kernel)) ?_
                                refine Eq.trans (jr_s (pc2 := 5) (lv2 := [(0, .ref 20), (1, .int 7), (2, .int a2)]) (st2 := [.int 7]) jF_93_4 rfl rfl) ?_
                                refine Eq.trans (jr_s (pc2 := 6) (lv2 := [(0, .ref 20), (1, .int 7), (2, .int a2)]) (st2 := [.ref 20, .int 7]) jF_93_5 rfl rfl) ?_
                                refine Eq.trans (jr_gf (v := .ref 21) jF_93_6 (by decide +kernel)) ?_
                                refine Eq.trans (jr_al (v := 25) jF_93_9 (by decide +kernel)) ?_
                                refine Eq.trans (jr_ic0 jF_93_10 (by decide +kernel)) ?_
                                refine Eq.trans (jr_s (pc2 := 14) (lv2 := [(0, .ref 20), (1, .int 7), (2, .int a2)]) (st2 := [.int a2]) jF_93_13 rfl rfl) ?_
                                refine Eq.trans (jr_if0 jF_93_14 (jk_lt_ge (show (0 : Int32).toInt ≤ (a2 : Int32).toInt by rw [show (0 : Int32).toInt = 0 from by decide]; omega))) ?_
                                refine Eq.trans (jr_s (pc2 := 18) (lv2 := [(0, .ref 20), (1, .int 7), (2, .int a2)]) (st2 := [.int a2]) jF_93_17 rfl rfl) ?_
                                refine Eq.trans (jr_s (pc2 := 20) (lv2 := [(0, .ref 20), (1, .int 7), (2, .int a2)]) (st2 := [.int 6, .int a2]) jF_93_18 rfl rfl) ?_
                                refine Eq.trans (jr_ic1 jF_93_20 (jk_ge_ge (show (6 : Int32).toInt ≤ (a2 : Int32).toInt by rw [show (6 : Int32).toInt = 6 from by decide]; omega))) ?_
                                refine Eq.trans (jr_s (pc2 := 33) (lv2 := [(0, .ref 20), (1, .int 7), (2, .int a2)]) (st2 := [.int (-1)]) jF_93_32 rfl rfl) ?_
                                exact jr_ri jF_93_33 rfl
                              exact jr_ri jF_92_9 rfl
                            · refine Eq.trans (jr_s (pc2 := 1) (lv2 := [(0, .ref 117), (1, .int 7), (2, .int a2)]) (st2 := [.ref 117]) jF_266_0 rfl rfl) ?_
                              refine Eq.trans (jr_s (pc2 := 2) (lv2 := [(0, .ref 117), (1, .int 7), (2, .int a2)]) (st2 := [.int 7, .ref 117]) jF_266_1 rfl rfl) ?_
                              refine Eq.trans (jr_cV (a := 117) (as := [.int 7]) (rest := []) (v := some (.long 0)) (hp2 := jh2) (fr2 := 499) (lo2 := 19979) jF_266_2 (by decide +kernel) rfl (show j_cnd 500 20000 499 19979 2 _ _ = true from rfl) ?_) ?_
                              · refine Eq.trans (jr_s (pc2 := 1) (lv2 := [(0, .ref 117), (1, .int 7)]) (st2 := [.int 7]) jF_267_0 rfl rfl) ?_
                                refine Eq.trans (jr_s (pc2 := 2) (lv2 := [(0, .ref 117), (1, .int 7)]) (st2 := [.long 7]) jF_267_1 rfl rfl) ?_
                                refine Eq.trans (jr_s (pc2 := 3) (lv2 := [(0, .ref 117), (1, .int 7)]) (st2 := [.long 0, .long 7]) jF_267_2 rfl rfl) ?_
                                refine Eq.trans (jr_s (pc2 := 6) (lv2 := [(0, .ref 117), (1, .int 7)]) (st2 := [.long 17, .long 0, .long 7]) jF_267_3 rfl rfl) ?_
                                refine Eq.trans (jr_cS (as := [.long 7, .long 0, .long 17]) (rest := []) (v := some (.int 1)) (hp2 := jh2) (fr2 := 498) (lo2 := 19954) jF_267_6 rfl (show j_cnd 499 19979 498 19954 6 _ _ = true from rfl) ?_) ?_
                                · refine Eq.trans (jr_s (pc2 := 1) (lv2 := [(0, .long 7), (2, .long 0), (4, .long 17)]) (st2 := [.long 7]) jF_232_0 rfl rfl) ?_
                                  refine Eq.trans (jr_s (pc2 := 2) (lv2 := [(0, .long 7), (2, .long 0), (4, .long 17)]) (st2 := [.long 0, .long 7]) jF_232_1 rfl rfl) ?_
                                  refine Eq.trans (jr_s (pc2 := 3) (lv2 := [(0, .long 7), (2, .long 0), (4, .long 17)]) (st2 := [.int 1]) jF_232_2 rfl rfl) ?_
                                  refine Eq.trans (jr_if0 jF_232_3 (by decide +kernel)) ?_
                                  refine Eq.trans (jr_s (pc2 := 7) (lv2 := [(0, .long 7), (2, .long 0), (4, .long 17)]) (st2 := [.long 7]) jF_232_6 rfl rfl) ?_
                                  refine Eq.trans (jr_s (pc2 := 9) (lv2 := [(0, .long 7), (2, .long 0), (4, .long 17)]) (st2 := [.long 17, .long 7]) jF_232_7 rfl rfl) ?_
                                  refine Eq.trans (jr_s (pc2 := 10) (lv2 := [(0, .long 7), (2, .long 0), (4, .long 17)]) (st2 := [.int (-1)]) jF_232_9 rfl rfl) ?_
                                  refine Eq.trans (jr_if0 jF_232_10 (by decide +kernel)) ?_
                                  refine Eq.trans (jr_s (pc2 := 14) (lv2 := [(0, .long 7), (2, .long 0), (4, .long 17)]) (st2 := [.int 1]) jF_232_13 rfl rfl) ?_
                                  refine Eq.trans (jr_s (pc2 := 18) (lv2 := [(0, .long 7), (2, .long 0), (4, .long 17)]) (st2 := [.int 1]) jF_232_14 rfl rfl) ?_
                                  exact jr_ri jF_232_18 rfl
                                refine Eq.trans (jr_if0 jF_267_9 (by decide +kernel)) ?_
                                refine Eq.trans (jr_s (pc2 := 13) (lv2 := [(0, .ref 117), (1, .int 7)]) (st2 := [.ref 117]) jF_267_12 rfl rfl) ?_
                                refine Eq.trans (jr_gf (v := .ref 138) jF_267_13 (by decide +kernel)) ?_
                                refine Eq.trans (jr_s (pc2 := 18) (lv2 := [(0, .ref 117), (1, .int 7)]) (st2 := [.int 18, .ref 138]) jF_267_16 rfl rfl) ?_
                                refine Eq.trans (jr_s (pc2 := 19) (lv2 := [(0, .ref 117), (1, .int 7)]) (st2 := [.int 7, .int 18, .ref 138]) jF_267_18 rfl rfl) ?_
                                refine Eq.trans (jr_s (pc2 := 20) (lv2 := [(0, .ref 117), (1, .int 7)]) (st2 := [.int 25, .ref 138]) jF_267_19 rfl rfl) ?_
                                refine Eq.trans (jr_ldl (v := .long 0) jF_267_20 (by decide +kernel)) ?_
                                exact jr_rl jF_267_21
                              refine Eq.trans (jr_s (pc2 := 6) (lv2 := [(3, .long 0), (0, .ref 117), (1, .int 7), (2, .int a2)]) (st2 := []) jF_266_5 rfl rfl) ?_
                              refine Eq.trans (jr_s (pc2 := 7) (lv2 := [(3, .long 0), (0, .ref 117), (1, .int 7), (2, .int a2)]) (st2 := [.long 0]) jF_266_6 rfl rfl) ?_
                              refine Eq.trans (jr_s (pc2 := 8) (lv2 := [(3, .long 0), (0, .ref 117), (1, .int 7), (2, .int a2)]) (st2 := [.long 0, .long 0]) jF_266_7 rfl rfl) ?_
                              refine Eq.trans (jr_s (pc2 := 9) (lv2 := [(3, .long 0), (0, .ref 117), (1, .int 7), (2, .int a2)]) (st2 := [.int 0]) jF_266_8 rfl rfl) ?_
                              refine Eq.trans (jr_if1 jF_266_9 (by decide +kernel)) ?_
                              refine Eq.trans (jr_s (pc2 := 25) (lv2 := [(3, .long 0), (0, .ref 117), (1, .int 7), (2, .int a2)]) (st2 := [.int (-1)]) jF_266_24 rfl rfl) ?_
                              exact jr_ri jF_266_25 rfl
                          · rcases j_ilt a1.toInt 9 with h_a1_9 | h_a1_9
                            · obtain rfl : a1 = 8 := Int32.toInt_inj.mp (by rw [show (8 : Int32).toInt = 8 from by decide]; omega)
                              refine ⟨60000, 60000, (-1), jh2, jh2, ?_, ?_, by decide +kernel⟩
                              · refine Eq.trans (jr_s (pc2 := 1) (lv2 := [(0, .ref 9), (1, .int 8), (2, .int a2)]) (st2 := [.ref 9]) jF_92_0 rfl rfl) ?_
                                refine Eq.trans (jr_gf (v := .ref 20) jF_92_1 (by decide +kernel)) ?_
                                refine Eq.trans (jr_s (pc2 := 5) (lv2 := [(0, .ref 9), (1, .int 8), (2, .int a2)]) (st2 := [.int 8, .ref 20]) jF_92_4 rfl rfl) ?_
                                refine Eq.trans (jr_s (pc2 := 6) (lv2 := [(0, .ref 9), (1, .int 8), (2, .int a2)]) (st2 := [.int a2, .int 8, .ref 20]) jF_92_5 rfl rfl) ?_
                                refine Eq.trans (jr_cV (a := 20) (as := [.int 8, .int a2]) (rest := []) (v := some (.int (-1))) (hp2 := jh2) (fr2 := 499) (lo2 := 19978) jF_92_6 (by decide +kernel) rfl (show j_cnd 500 20000 499 19978 3 _ _ = true from rfl) ?_) ?_
                                · refine Eq.trans (jr_s (pc2 := 1) (lv2 := [(0, .ref 20), (1, .int 8), (2, .int a2)]) (st2 := [.int 8]) jF_93_0 rfl rfl) ?_
                                  refine Eq.trans (jr_if0 jF_93_1 (by decide +kernel)) ?_
                                  refine Eq.trans (jr_s (pc2 := 5) (lv2 := [(0, .ref 20), (1, .int 8), (2, .int a2)]) (st2 := [.int 8]) jF_93_4 rfl rfl) ?_
                                  refine Eq.trans (jr_s (pc2 := 6) (lv2 := [(0, .ref 20), (1, .int 8), (2, .int a2)]) (st2 := [.ref 20, .int 8]) jF_93_5 rfl rfl) ?_
                                  refine Eq.trans (jr_gf (v := .ref 21) jF_93_6 (by decide +kernel)) ?_
                                  refine Eq.trans (jr_al (v := 25) jF_93_9 (by decide +kernel)) ?_
                                  refine Eq.trans (jr_ic0 jF_93_10 (by decide +kernel)) ?_
                                  refine Eq.trans (jr_s (pc2 := 14) (lv2 := [(0, .ref 20), (1, .int 8), (2, .int a2)]) (st2 := [.int a2]) jF_93_13 rfl rfl) ?_
                                  refine Eq.trans (jr_if0 jF_93_14 (jk_lt_ge (show (0 : Int32).toInt ≤ (a2 : Int32).toInt by rw [show (0 : Int32).toInt = 0 from by decide]; omega))) ?_
                                  refine Eq.trans (jr_s (pc2 := 18) (lv2 := [(0, .ref 20), (1, .int 8), (2, .int a2)]) (st2 := [.int a2]) jF_93_17 rfl rfl) ?_
                                  refine Eq.trans (jr_s (pc2 := 20) (lv2 := [(0, .ref 20), (1, .int 8), (2, .int a2)]) (st2 := [.int 6, .int a2]) jF_93_18 rfl rfl) ?_
                                  refine Eq.trans (jr_ic1 jF_93_20 (jk_ge_ge (show (6 : Int32).toInt ≤ (a2 : Int32).toInt by rw [show (6 : Int32).toInt = 6 from by decide]; omega))) ?_
                                  refine Eq.trans (jr_s (pc2 := 33) (lv2 := [(0, .ref 20), (1, .int 8), (2, .int a2)]) (st2 := [.int (-1)]) jF_93_32 rfl rfl) ?_
                                  exact jr_ri jF_93_33 rfl
                                exact jr_ri jF_92_9 rfl
                              · refine Eq.trans (jr_s (pc2 := 1) (lv2 := [(0, .ref 117), (1, .int 8), (2, .int a2)]) (st2 := [.ref 117]) jF_266_0 rfl rfl) ?_
                                refine Eq.trans (jr_s (pc2 := 2) (lv2 := [(0, .ref 117), (1, .int 8), (2, .int a2)]) (st2 := [.int 8, .ref 117]) jF_266_1 rfl rfl) ?_
                                refine Eq.trans (jr_cV (a := 117) (as := [.int 8]) (rest := []) (v := some (.long 0)) (hp2 := jh2) (fr2 := 499) (lo2 := 19979) jF_266_2 (by decide +kernel) rfl (show j_cnd 500 20000 499 19979 2 _ _ = true from rfl) ?_) ?_
                                · refine Eq.trans (jr_s (pc2 := 1) (lv2 := [(0, .ref 117), (1, .int 8)]) (st2 := [.int 8]) jF_267_0 rfl rfl) ?_
                                  refine Eq.trans (jr_s (pc2 := 2) (lv2 := [(0, .ref 117), (1, .int 8)]) (st2 := [.long 8]) jF_267_1 rfl rfl) ?_
                                  refine Eq.trans (jr_s (pc2 := 3) (lv2 := [(0, .ref 117), (1, .int 8)]) (st2 := [.long 0, .long 8]) jF_267_2 rfl rfl) ?_
                                  refine Eq.trans (jr_s (pc2 := 6) (lv2 := [(0, .ref 117), (1, .int 8)]) (st2 := [.long 17, .long 0, .long 8]) jF_267_3 rfl rfl) ?_
                                  refine Eq.trans (jr_cS (as := [.long 8, .long 0, .long 17]) (rest := []) (v := some (.int 1)) (hp2 := jh2) (fr2 := 498) (lo2 := 19954) jF_267_6 rfl (show j_cnd 499 19979 498 19954 6 _ _ = true from rfl) ?_) ?_
                                  · refine Eq.trans (jr_s (pc2 := 1) (lv2 := [(0, .long 8), (2, .long 0), (4, .long 17)]) (st2 := [.long 8]) jF_232_0 rfl rfl) ?_
                                    refine Eq.trans (jr_s (pc2 := 2) (lv2 := [(0, .long 8), (2, .long 0), (4, .long 17)]) (st2 := [.long 0, .long 8]) jF_232_1 rfl rfl) ?_
                                    refine Eq.trans (jr_s (pc2 := 3) (lv2 := [(0, .long 8), (2, .long 0), (4, .long 17)]) (st2 := [.int 1]) jF_232_2 rfl rfl) ?_
                                    refine Eq.trans (jr_if0 jF_232_3 (by decide +kernel)) ?_
                                    refine Eq.trans (jr_s (pc2 := 7) (lv2 := [(0, .long 8), (2, .long 0), (4, .long 17)]) (st2 := [.long 8]) jF_232_6 rfl rfl) ?_
                                    refine Eq.trans (jr_s (pc2 := 9) (lv2 := [(0, .long 8), (2, .long 0), (4, .long 17)]) (st2 := [.long 17, .long 8]) jF_232_7 rfl rfl) ?_
                                    refine Eq.trans (jr_s (pc2 := 10) (lv2 := [(0, .long 8), (2, .long 0), (4, .long 17)]) (st2 := [.int (-1)]) jF_232_9 rfl rfl) ?_
                                    refine Eq.trans (jr_if0 jF_232_10 (by decide +kernel)) ?_
                                    refine Eq.trans (jr_s (pc2 := 14) (lv2 := [(0, .long 8), (2, .long 0), (4, .long 17)]) (st2 := [.int 1]) jF_232_13 rfl rfl) ?_
                                    refine Eq.trans (jr_s (pc2 := 18) (lv2 := [(0, .long 8), (2, .long 0), (4, .long 17)]) (st2 := [.int 1]) jF_232_14 rfl rfl) ?_
                                    exact jr_ri jF_232_18 rfl
                                  refine Eq.trans (jr_if0 jF_267_9 (by decide +kernel)) ?_
                                  refine Eq.trans (jr_s (pc2 := 13) (lv2 := [(0, .ref 117), (1, .int 8)]) (st2 := [.ref 117]) jF_267_12 rfl rfl) ?_
                                  refine Eq.trans (jr_gf (v := .ref 138) jF_267_13 (by decide +kernel)) ?_
                                  refine Eq.trans (jr_s (pc2 := 18) (lv2 := [(0, .ref 117), (1, .int 8)]) (st2 := [.int 18, .ref 138]) jF_267_16 rfl rfl) ?_
                                  refine Eq.trans (jr_s (pc2 := 19) (lv2 := [(0, .ref 117), (1, .int 8)]) (st2 := [.int 8, .int 18, .ref 138]) jF_267_18 rfl rfl) ?_
                                  refine Eq.trans (jr_s (pc2 := 20) (lv2 := [(0, .ref 117), (1, .int 8)]) (st2 := [.int 26, .ref 138]) jF_267_19 rfl rfl) ?_
                                  refine Eq.trans (jr_ldl (v := .long 0) jF_267_20 (by decide +kernel)) ?_
                                  exact jr_rl jF_267_21
                                refine Eq.trans (jr_s (pc2 := 6) (lv2 := [(3, .long 0), (0, .ref 117), (1, .int 8), (2, .int a2)]) (st2 := []) jF_266_5 rfl rfl) ?_
                                refine Eq.trans (jr_s (pc2 := 7) (lv2 := [(3, .long 0), (0, .ref 117), (1, .int 8), (2, .int a2)]) (st2 := [.long 0]) jF_266_6 rfl rfl) ?_
                                refine Eq.trans (jr_s (pc2 := 8) (lv2 := [(3, .long 0), (0, .ref 117), (1, .int 8), (2, .int a2)]) (st2 := [.long 0, .long 0]) jF_266_7 rfl rfl) ?_
                                refine Eq.trans (jr_s (pc2 := 9) (lv2 := [(3, .long 0), (0, .ref 117), (1, .int 8), (2, .int a2)]) (st2 := [.int 0]) jF_266_8 rfl rfl) ?_
                                refine Eq.trans (jr_if1 jF_266_9 (by decide +kernel)) ?_
                                refine Eq.trans (jr_s (pc2 := 25) (lv2 := [(3, .long 0), (0, .ref 117), (1, .int 8), (2, .int a2)]) (st2 := [.int (-1)]) jF_266_24 rfl rfl) ?_
                                exact jr_ri jF_266_25 rfl
                            · rcases j_ilt a1.toInt 10 with h_a1_10 | h_a1_10
                              · obtain rfl : a1 = 9 := Int32.toInt_inj.mp (by rw [show (9 : Int32).toInt = 9 from by decide]; omega)
                                refine ⟨60000, 60000, (-1), jh2, jh2, ?_, ?_, by decide +kernel⟩
                                · refine Eq.trans (jr_s (pc2 := 1) (lv2 := [(0, .ref 9), (1, .int 9), (2, .int a2)]) (st2 := [.ref 9]) jF_92_0 rfl rfl) ?_
                                  refine Eq.trans (jr_gf (v := .ref 20) jF_92_1 (by decide +kernel)) ?_
                                  refine Eq.trans (jr_s (pc2 := 5) (lv2 := [(0, .ref 9), (1, .int 9), (2, .int a2)]) (st2 := [.int 9, .ref 20]) jF_92_4 rfl rfl) ?_
                                  refine Eq.trans (jr_s (pc2 := 6) (lv2 := [(0, .ref 9), (1, .int 9), (2, .int a2)]) (st2 := [.int a2, .int 9, .ref 20]) jF_92_5 rfl rfl) ?_
                                  refine Eq.trans (jr_cV (a := 20) (as := [.int 9, .int a2]) (rest := []) (v := some (.int (-1))) (hp2 := jh2) (fr2 := 499) (lo2 := 19978) jF_92_6 (by decide +kernel) rfl (show j_cnd 500 20000 499 19978 3 _ _ = true from rfl) ?_) ?_
                                  · refine Eq.trans (jr_s (pc2 := 1) (lv2 := [(0, .ref 20), (1, .int 9), (2, .int a2)]) (st2 := [.int 9]) jF_93_0 rfl rfl) ?_
                                    refine Eq.trans (jr_if0 jF_93_1 (by decide +kernel)) ?_
                                    refine Eq.trans (jr_s (pc2 := 5) (lv2 := [(0, .ref 20), (1, .int 9), (2, .int a2)]) (st2 := [.int 9]) jF_93_4 rfl rfl) ?_
                                    refine Eq.trans (jr_s (pc2 := 6) (lv2 := [(0, .ref 20), (1, .int 9), (2, .int a2)]) (st2 := [.ref 20, .int 9]) jF_93_5 rfl rfl) ?_
                                    refine Eq.trans (jr_gf (v := .ref 21) jF_93_6 (by decide +kernel)) ?_
                                    refine Eq.trans (jr_al (v := 25) jF_93_9 (by decide +kernel)) ?_
                                    refine Eq.trans (jr_ic0 jF_93_10 (by decide +kernel)) ?_
                                    refine Eq.trans (jr_s (pc2 := 14) (lv2 := [(0, .ref 20), (1, .int 9), (2, .int a2)]) (st2 := [.int a2]) jF_93_13 rfl rfl) ?_
                                    refine Eq.trans (jr_if0 jF_93_14 (jk_lt_ge (show (0 : Int32).toInt ≤ (a2 : Int32).toInt by rw [show (0 : Int32).toInt = 0 from by decide]; omega))) ?_
                                    refine Eq.trans (jr_s (pc2 := 18) (lv2 := [(0, .ref 20), (1, .int 9), (2, .int a2)]) (st2 := [.int a2]) jF_93_17 rfl rfl) ?_
                                    refine Eq.trans (jr_s (pc2 := 20) (lv2 := [(0, .ref 20), (1, .int 9), (2, .int a2)]) (st2 := [.int 6, .int a2]) jF_93_18 rfl rfl) ?_
                                    refine Eq.trans (jr_ic1 jF_93_20 (jk_ge_ge (show (6 : Int32).toInt ≤ (a2 : Int32).toInt by rw [show (6 : Int32).toInt = 6 from by decide]; omega))) ?_
                                    refine Eq.trans (jr_s (pc2 := 33) (lv2 := [(0, .ref 20), (1, .int 9), (2, .int a2)]) (st2 := [.int (-1)]) jF_93_32 rfl rfl) ?_
                                    exact jr_ri jF_93_33 rfl
                                  exact jr_ri jF_92_9 rfl
                                · refine Eq.trans (jr_s (pc2 := 1) (lv2 := [(0, .ref 117), (1, .int 9), (2, .int a2)]) (st2 := [.ref 117]) jF_266_0 rfl rfl) ?_
                                  refine Eq.trans (jr_s (pc2 := 2) (lv2 := [(0, .ref 117), (1, .int 9), (2, .int a2)]) (st2 := [.int 9, .ref 117]) jF_266_1 rfl rfl) ?_
                                  refine Eq.trans (jr_cV (a := 117) (as := [.int 9]) (rest := []) (v := some (.long 0)) (hp2 := jh2) (fr2 := 499) (lo2 := 19979) jF_266_2 (by decide +kernel) rfl (show j_cnd 500 20000 499 19979 2 _ _ = true from rfl) ?_) ?_
                                  · refine Eq.trans (jr_s (pc2 := 1) (lv2 := [(0, .ref 117), (1, .int 9)]) (st2 := [.int 9]) jF_267_0 rfl rfl) ?_
                                    refine Eq.trans (jr_s (pc2 := 2) (lv2 := [(0, .ref 117), (1, .int 9)]) (st2 := [.long 9]) jF_267_1 rfl rfl) ?_
                                    refine Eq.trans (jr_s (pc2 := 3) (lv2 := [(0, .ref 117), (1, .int 9)]) (st2 := [.long 0, .long 9]) jF_267_2 rfl rfl) ?_
                                    refine Eq.trans (jr_s (pc2 := 6) (lv2 := [(0, .ref 117), (1, .int 9)]) (st2 := [.long 17, .long 0, .long 9]) jF_267_3 rfl rfl) ?_
                                    refine Eq.trans (jr_cS (as := [.long 9, .long 0, .long 17]) (rest := []) (v := some (.int 1)) (hp2 := jh2) (fr2 := 498) (lo2 := 19954) jF_267_6 rfl (show j_cnd 499 19979 498 19954 6 _ _ = true from rfl) ?_) ?_
                                    · refine Eq.trans (jr_s (pc2 := 1) (lv2 := [(0, .long 9), (2, .long 0), (4, .long 17)]) (st2 := [.long 9]) jF_232_0 rfl rfl) ?_
                                      refine Eq.trans (jr_s (pc2 := 2) (lv2 := [(0, .long 9), (2, .long 0), (4, .long 17)]) (st2 := [.long 0, .long 9]) jF_232_1 rfl rfl) ?_
                                      refine Eq.trans (jr_s (pc2 := 3) (lv2 := [(0, .long 9), (2, .long 0), (4, .long 17)]) (st2 := [.int 1]) jF_232_2 rfl rfl) ?_
                                      refine Eq.trans (jr_if0 jF_232_3 (by decide +kernel)) ?_
                                      refine Eq.trans (jr_s (pc2 := 7) (lv2 := [(0, .long 9), (2, .long 0), (4, .long 17)]) (st2 := [.long 9]) jF_232_6 rfl rfl) ?_
                                      refine Eq.trans (jr_s (pc2 := 9) (lv2 := [(0, .long 9), (2, .long 0), (4, .long 17)]) (st2 := [.long 17, .long 9]) jF_232_7 rfl rfl) ?_
                                      refine Eq.trans (jr_s (pc2 := 10) (lv2 := [(0, .long 9), (2, .long 0), (4, .long 17)]) (st2 := [.int (-1)]) jF_232_9 rfl rfl) ?_
                                      refine Eq.trans (jr_if0 jF_232_10 (by decide +kernel)) ?_
                                      refine Eq.trans (jr_s (pc2 := 14) (lv2 := [(0, .long 9), (2, .long 0), (4, .long 17)]) (st2 := [.int 1]) jF_232_13 rfl rfl) ?_
                                      refine Eq.trans (jr_s (pc2 := 18) (lv2 := [(0, .long 9), (2, .long 0), (4, .long 17)]) (st2 := [.int 1]) jF_232_14 rfl rfl) ?_
                                      exact jr_ri jF_232_18 rfl
                                    refine Eq.trans (jr_if0 jF_267_9 (by decide +kernel)) ?_
                                    refine Eq.trans (jr_s (pc2 := 13) (lv2 := [(0, .ref 117), (1, .int 9)]) (st2 := [.ref 117]) jF_267_12 rfl rfl) ?_
                                    refine Eq.trans (jr_gf (v := .ref 138) jF_267_13 (by decide +kernel)) ?_
                                    refine Eq.trans (jr_s (pc2 := 18) (lv2 := [(0, .ref 117), (1, .int 9)]) (st2 := [.int 18, .ref 138]) jF_267_16 rfl rfl) ?_
                                    refine Eq.trans (jr_s (pc2 := 19) (lv2 := [(0, .ref 117), (1, .int 9)]) (st2 := [.int 9, .int 18, .ref 138]) jF_267_18 rfl rfl) ?_
                                    refine Eq.trans (jr_s (pc2 := 20) (lv2 := [(0, .ref 117), (1, .int 9)]) (st2 := [.int 27, .ref 138]) jF_267_19 rfl rfl) ?_
                                    refine Eq.trans (jr_ldl (v := .long 0) jF_267_20 (by decide +kernel)) ?_
                                    exact jr_rl jF_267_21
                                  refine Eq.trans (jr_s (pc2 := 6) (lv2 := [(3, .long 0), (0, .ref 117), (1, .int 9), (2, .int a2)]) (st2 := []) jF_266_5 rfl rfl) ?_
                                  refine Eq.trans (jr_s (pc2 := 7) (lv2 := [(3, .long 0), (0, .ref 117), (1, .int 9), (2, .int a2)]) (st2 := [.long 0]) jF_266_6 rfl rfl) ?_
                                  refine Eq.trans (jr_s (pc2 := 8) (lv2 := [(3, .long 0), (0, .ref 117), (1, .int 9), (2, .int a2)]) (st2 := [.long 0, .long 0]) jF_266_7 rfl rfl) ?_
                                  refine Eq.trans (jr_s (pc2 := 9) (lv2 := [(3, .long 0), (0, .ref 117), (1, .int 9), (2, .int a2)]) (st2 := [.int 0]) jF_266_8 rfl rfl) ?_
                                  refine Eq.trans (jr_if1 jF_266_9 (by decide +kernel)) ?_
                                  refine Eq.trans (jr_s (pc2 := 25) (lv2 := [(3, .long 0), (0, .ref 117), (1, .int 9), (2, .int a2)]) (st2 := [.int (-1)]) jF_266_24 rfl rfl) ?_
                                  exact jr_ri jF_266_25 rfl
                              · rcases j_ilt a1.toInt 11 with h_a1_11 | h_a1_11
                                · obtain rfl : a1 = 10 := Int32.toInt_inj.mp (by rw [show (10 : Int32).toInt = 10 from by decide]; omega)
                                  refine ⟨60000, 60000, (-1), jh2, jh2, ?_, ?_, by decide +kernel⟩
                                  · refine Eq.trans (jr_s (pc2 := 1) (lv2 := [(0, .ref 9), (1, .int 10), (2, .int a2)]) (st2 := [.ref 9]) jF_92_0 rfl rfl) ?_
                                    refine Eq.trans (jr_gf (v := .ref 20) jF_92_1 (by decide +kernel)) ?_
                                    refine Eq.trans (jr_s (pc2 := 5) (lv2 := [(0, .ref 9), (1, .int 10), (2, .int a2)]) (st2 := [.int 10, .ref 20]) jF_92_4 rfl rfl) ?_
                                    refine Eq.trans (jr_s (pc2 := 6) (lv2 := [(0, .ref 9), (1, .int 10), (2, .int a2)]) (st2 := [.int a2, .int 10, .ref 20]) jF_92_5 rfl rfl) ?_
                                    refine Eq.trans (jr_cV (a := 20) (as := [.int 10, .int a2]) (rest := []) (v := some (.int (-1))) (hp2 := jh2) (fr2 := 499) (lo2 := 19978) jF_92_6 (by decide +kernel) rfl (show j_cnd 500 20000 499 19978 3 _ _ = true from rfl) ?_) ?_
                                    · refine Eq.trans (jr_s (pc2 := 1) (lv2 := [(0, .ref 20), (1, .int 10), (2, .int a2)]) (st2 := [.int 10]) jF_93_0 rfl rfl) ?_
                                      refine Eq.trans (jr_if0 jF_93_1 (by decide +kernel)) ?_
                                      refine Eq.trans (jr_s (pc2 := 5) (lv2 := [(0, .ref 20), (1, .int 10), (2, .int a2)]) (st2 := [.int 10]) jF_93_4 rfl rfl) ?_
                                      refine Eq.trans (jr_s (pc2 := 6) (lv2 := [(0, .ref 20), (1, .int 10), (2, .int a2)]) (st2 := [.ref 20, .int 10]) jF_93_5 rfl rfl) ?_
                                      refine Eq.trans (jr_gf (v := .ref 21) jF_93_6 (by decide +kernel)) ?_
                                      refine Eq.trans (jr_al (v := 25) jF_93_9 (by decide +kernel)) ?_
                                      refine Eq.trans (jr_ic0 jF_93_10 (by decide +kernel)) ?_
                                      refine Eq.trans (jr_s (pc2 := 14) (lv2 := [(0, .ref 20), (1, .int 10), (2, .int a2)]) (st2 := [.int a2]) jF_93_13 rfl rfl) ?_
                                      refine Eq.trans (jr_if0 jF_93_14 (jk_lt_ge (show (0 : Int32).toInt ≤ (a2 : Int32).toInt by rw [show (0 : Int32).toInt = 0 from by decide]; omega))) ?_
                                      refine Eq.trans (jr_s (pc2 := 18) (lv2 := [(0, .ref 20), (1, .int 10), (2, .int a2)]) (st2 := [.int a2]) jF_93_17 rfl rfl) ?_
                                      refine Eq.trans (jr_s (pc2 := 20) (lv2 := [(0, .ref 20), (1, .int 10), (2, .int a2)]) (st2 := [.int 6, .int a2]) jF_93_18 rfl rfl) ?_
                                      refine Eq.trans (jr_ic1 jF_93_20 (jk_ge_ge (show (6 : Int32).toInt ≤ (a2 : Int32).toInt by rw [show (6 : Int32).toInt = 6 from by decide]; omega))) ?_
                                      refine Eq.trans (jr_s (pc2 := 33) (lv2 := [(0, .ref 20), (1, .int 10), (2, .int a2)]) (st2 := [.int (-1)]) jF_93_32 rfl rfl) ?_
                                      exact jr_ri jF_93_33 rfl
                                    exact jr_ri jF_92_9 rfl
                                  · refine Eq.trans (jr_s (pc2 := 1) (lv2 := [(0, .ref 117), (1, .int 10), (2, .int a2)]) (st2 := [.ref 117]) jF_266_0 rfl rfl) ?_
                                    refine Eq.trans (jr_s (pc2 := 2) (lv2 := [(0, .ref 117), (1, .int 10), (2, .int a2)]) (st2 := [.int 10, .ref 117]) jF_266_1 rfl rfl) ?_
                                    refine Eq.trans (jr_cV (a := 117) (as := [.int 10]) (rest := []) (v := some (.long 0)) (hp2 := jh2) (fr2 := 499) (lo2 := 19979) jF_266_2 (by decide +kernel) rfl (show j_cnd 500 20000 499 19979 2 _ _ = true from rfl) ?_) ?_
                                    · refine Eq.trans (jr_s (pc2 := 1) (lv2 := [(0, .ref 117), (1, .int 10)]) (st2 := [.int 10]) jF_267_0 rfl rfl) ?_
                                      refine Eq.trans (jr_s (pc2 := 2) (lv2 := [(0, .ref 117), (1, .int 10)]) (st2 := [.long 10]) jF_267_1 rfl rfl) ?_
                                      refine Eq.trans (jr_s (pc2 := 3) (lv2 := [(0, .ref 117), (1, .int 10)]) (st2 := [.long 0, .long 10]) jF_267_2 rfl rfl) ?_
                                      refine Eq.trans (jr_s (pc2 := 6) (lv2 := [(0, .ref 117), (1, .int 10)]) (st2 := [.long 17, .long 0, .long 10]) jF_267_3 rfl rfl) ?_
                                      refine Eq.trans (jr_cS (as := [.long 10, .long 0, .long 17]) (rest := []) (v := some (.int 1)) (hp2 := jh2) (fr2 := 498) (lo2 := 19954) jF_267_6 rfl (show j_cnd 499 19979 498 19954 6 _ _ = true from rfl) ?_) ?_
                                      · refine Eq.trans (jr_s (pc2 := 1) (lv2 := [(0, .long 10), (2, .long 0), (4, .long 17)]) (st2 := [.long 10]) jF_232_0 rfl rfl) ?_
                                        refine Eq.trans (jr_s (pc2 := 2) (lv2 := [(0, .long 10), (2, .long 0), (4, .long 17)]) (st2 := [.long 0, .long 10]) jF_232_1 rfl rfl) ?_
                                        refine Eq.trans (jr_s (pc2 := 3) (lv2 := [(0, .long 10), (2, .long 0), (4, .long 17)]) (st2 := [.int 1]) jF_232_2 rfl rfl) ?_
                                        refine Eq.trans (jr_if0 jF_232_3 (by decide +kernel)) ?_
                                        refine Eq.trans (jr_s (pc2 := 7) (lv2 := [(0, .long 10), (2, .long 0), (4, .long 17)]) (st2 := [.long 10]) jF_232_6 rfl rfl) ?_
                                        refine Eq.trans (jr_s (pc2 := 9) (lv2 := [(0, .long 10), (2, .long 0), (4, .long 17)]) (st2 := [.long 17, .long 10]) jF_232_7 rfl rfl) ?_
                                        refine Eq.trans (jr_s (pc2 := 10) (lv2 := [(0, .long 10), (2, .long 0), (4, .long 17)]) (st2 := [.int (-1)]) jF_232_9 rfl rfl) ?_
                                        refine Eq.trans (jr_if0 jF_232_10 (by decide +kernel)) ?_
                                        refine Eq.trans (jr_s (pc2 := 14) (lv2 := [(0, .long 10), (2, .long 0), (4, .long 17)]) (st2 := [.int 1]) jF_232_13 rfl rfl) ?_
                                        refine Eq.trans (jr_s (pc2 := 18) (lv2 := [(0, .long 10), (2, .long 0), (4, .long 17)]) (st2 := [.int 1]) jF_232_14 rfl rfl) ?_
                                        exact jr_ri jF_232_18 rfl
                                      refine Eq.trans (jr_if0 jF_267_9 (by decide +kernel)) ?_
                                      refine Eq.trans (jr_s (pc2 := 13) (lv2 := [(0, .ref 117), (1, .int 10)]) (st2 := [.ref 117]) jF_267_12 rfl rfl) ?_
                                      refine Eq.trans (jr_gf (v := .ref 138) jF_267_13 (by decide +kernel)) ?_
                                      refine Eq.trans (jr_s (pc2 := 18) (lv2 := [(0, .ref 117), (1, .int 10)]) (st2 := [.int 18, .ref 138]) jF_267_16 rfl rfl) ?_
                                      refine Eq.trans (jr_s (pc2 := 19) (lv2 := [(0, .ref 117), (1, .int 10)]) (st2 := [.int 10, .int 18, .ref 138]) jF_267_18 rfl rfl) ?_
                                      refine Eq.trans (jr_s (pc2 := 20) (lv2 := [(0, .ref 117), (1, .int 10)]) (st2 := [.int 28, .ref 138]) jF_267_19 rfl rfl) ?_
                                      refine Eq.trans (jr_ldl (v := .long 0) jF_267_20 (by decide +kernel)) ?_
                                      exact jr_rl jF_267_21
                                    refine Eq.trans (jr_s (pc2 := 6) (lv2 := [(3, .long 0), (0, .ref 117), (1, .int 10), (2, .int a2)]) (st2 := []) jF_266_5 rfl rfl) ?_
                                    refine Eq.trans (jr_s (pc2 := 7) (lv2 := [(3, .long 0), (0, .ref 117), (1, .int 10), (2, .int a2)]) (st2 := [.long 0]) jF_266_6 rfl rfl) ?_
                                    refine Eq.trans (jr_s (pc2 := 8) (lv2 := [(3, .long 0), (0, .ref 117), (1, .int 10), (2, .int a2)]) (st2 := [.long 0, .long 0]) jF_266_7 rfl rfl) ?_
                                    refine Eq.trans (jr_s (pc2 := 9) (lv2 := [(3, .long 0), (0, .ref 117), (1, .int 10), (2, .int a2)]) (st2 := [.int 0]) jF_266_8 rfl rfl) ?_
                                    refine Eq.trans (jr_if1 jF_266_9 (by decide +kernel)) ?_
                                    refine Eq.trans (jr_s (pc2 := 25) (lv2 := [(3, .long 0), (0, .ref 117), (1, .int 10), (2, .int a2)]) (st2 := [.int (-1)]) jF_266_24 rfl rfl) ?_
                                    exact jr_ri jF_266_25 rfl
                                · rcases j_ilt a1.toInt 12 with h_a1_12 | h_a1_12
                                  · obtain rfl : a1 = 11 := Int32.toInt_inj.mp (by rw [show (11 : Int32).toInt = 11 from by decide]; omega)
                                    refine ⟨60000, 60000, (-1), jh2, jh2, ?_, ?_, by decide +kernel⟩
                                    · refine Eq.trans (jr_s (pc2 := 1) (lv2 := [(0, .ref 9), (1, .int 11), (2, .int a2)]) (st2 := [.ref 9]) jF_92_0 rfl rfl) ?_
                                      refine Eq.trans (jr_gf (v := .ref 20) jF_92_1 (by decide +kernel)) ?_
                                      refine Eq.trans (jr_s (pc2 := 5) (lv2 := [(0, .ref 9), (1, .int 11), (2, .int a2)]) (st2 := [.int 11, .ref 20]) jF_92_4 rfl rfl) ?_
                                      refine Eq.trans (jr_s (pc2 := 6) (lv2 := [(0, .ref 9), (1, .int 11), (2, .int a2)]) (st2 := [.int a2, .int 11, .ref 20]) jF_92_5 rfl rfl) ?_
                                      refine Eq.trans (jr_cV (a := 20) (as := [.int 11, .int a2]) (rest := []) (v := some (.int (-1))) (hp2 := jh2) (fr2 := 499) (lo2 := 19978) jF_92_6 (by decide +kernel) rfl (show j_cnd 500 20000 499 19978 3 _ _ = true from rfl) ?_) ?_
                                      · refine Eq.trans (jr_s (pc2 := 1) (lv2 := [(0, .ref 20), (1, .int 11), (2, .int a2)]) (st2 := [.int 11]) jF_93_0 rfl rfl) ?_
                                        refine Eq.trans (jr_if0 jF_93_1 (by decide +kernel)) ?_
                                        refine Eq.trans (jr_s (pc2 := 5) (lv2 := [(0, .ref 20), (1, .int 11), (2, .int a2)]) (st2 := [.int 11]) jF_93_4 rfl rfl) ?_
                                        refine Eq.trans (jr_s (pc2 := 6) (lv2 := [(0, .ref 20), (1, .int 11), (2, .int a2)]) (st2 := [.ref 20, .int 11]) jF_93_5 rfl rfl) ?_
                                        refine Eq.trans (jr_gf (v := .ref 21) jF_93_6 (by decide +kernel)) ?_
                                        refine Eq.trans (jr_al (v := 25) jF_93_9 (by decide +kernel)) ?_
                                        refine Eq.trans (jr_ic0 jF_93_10 (by decide +kernel)) ?_
                                        refine Eq.trans (jr_s (pc2 := 14) (lv2 := [(0, .ref 20), (1, .int 11), (2, .int a2)]) (st2 := [.int a2]) jF_93_13 rfl rfl) ?_
                                        refine Eq.trans (jr_if0 jF_93_14 (jk_lt_ge (show (0 : Int32).toInt ≤ (a2 : Int32).toInt by rw [show (0 : Int32).toInt = 0 from by decide]; omega))) ?_
                                        refine Eq.trans (jr_s (pc2 := 18) (lv2 := [(0, .ref 20), (1, .int 11), (2, .int a2)]) (st2 := [.int a2]) jF_93_17 rfl rfl) ?_
                                        refine Eq.trans (jr_s (pc2 := 20) (lv2 := [(0, .ref 20), (1, .int 11), (2, .int a2)]) (st2 := [.int 6, .int a2]) jF_93_18 rfl rfl) ?_
                                        refine Eq.trans (jr_ic1 jF_93_20 (jk_ge_ge (show (6 : Int32).toInt ≤ (a2 : Int32).toInt by rw [show (6 : Int32).toInt = 6 from by decide]; omega))) ?_
                                        refine Eq.trans (jr_s (pc2 := 33) (lv2 := [(0, .ref 20), (1, .int 11), (2, .int a2)]) (st2 := [.int (-1)]) jF_93_32 rfl rfl) ?_
                                        exact jr_ri jF_93_33 rfl
                                      exact jr_ri jF_92_9 rfl
                                    · refine Eq.trans (jr_s (pc2 := 1) (lv2 := [(0, .ref 117), (1, .int 11), (2, .int a2)]) (st2 := [.ref 117]) jF_266_0 rfl rfl) ?_
                                      refine Eq.trans (jr_s (pc2 := 2) (lv2 := [(0, .ref 117), (1, .int 11), (2, .int a2)]) (st2 := [.int 11, .ref 117]) jF_266_1 rfl rfl) ?_
                                      refine Eq.trans (jr_cV (a := 117) (as := [.int 11]) (rest := []) (v := some (.long 0)) (hp2 := jh2) (fr2 := 499) (lo2 := 19979) jF_266_2 (by decide +kernel) rfl (show j_cnd 500 20000 499 19979 2 _ _ = true from rfl) ?_) ?_
                                      · refine Eq.trans (jr_s (pc2 := 1) (lv2 := [(0, .ref 117), (1, .int 11)]) (st2 := [.int 11]) jF_267_0 rfl rfl) ?_
                                        refine Eq.trans (jr_s (pc2 := 2) (lv2 := [(0, .ref 117), (1, .int 11)]) (st2 := [.long 11]) jF_267_1 rfl rfl) ?_
                                        refine Eq.trans (jr_s (pc2 := 3) (lv2 := [(0, .ref 117), (1, .int 11)]) (st2 := [.long 0, .long 11]) jF_267_2 rfl rfl) ?_
                                        refine Eq.trans (jr_s (pc2 := 6) (lv2 := [(0, .ref 117), (1, .int 11)]) (st2 := [.long 17, .long 0, .long 11]) jF_267_3 rfl rfl) ?_
                                        refine Eq.trans (jr_cS (as := [.long 11, .long 0, .long 17]) (rest := []) (v := some (.int 1)) (hp2 := jh2) (fr2 := 498) (lo2 := 19954) jF_267_6 rfl (show j_cnd 499 19979 498 19954 6 _ _ = true from rfl) ?_) ?_
                                        · refine Eq.trans (jr_s (pc2 := 1) (lv2 := [(0, .long 11), (2, .long 0), (4, .long 17)]) (st2 := [.long 11]) jF_232_0 rfl rfl) ?_
                                          refine Eq.trans (jr_s (pc2 := 2) (lv2 := [(0, .long 11), (2, .long 0), (4, .long 17)]) (st2 := [.long 0, .long 11]) jF_232_1 rfl rfl) ?_
                                          refine Eq.trans (jr_s (pc2 := 3) (lv2 := [(0, .long 11), (2, .long 0), (4, .long 17)]) (st2 := [.int 1]) jF_232_2 rfl rfl) ?_
                                          refine Eq.trans (jr_if0 jF_232_3 (by decide +kernel)) ?_
                                          refine Eq.trans (jr_s (pc2 := 7) (lv2 := [(0, .long 11), (2, .long 0), (4, .long 17)]) (st2 := [.long 11]) jF_232_6 rfl rfl) ?_
                                          refine Eq.trans (jr_s (pc2 := 9) (lv2 := [(0, .long 11), (2, .long 0), (4, .long 17)]) (st2 := [.long 17, .long 11]) jF_232_7 rfl rfl) ?_
                                          refine Eq.trans (jr_s (pc2 := 10) (lv2 := [(0, .long 11), (2, .long 0), (4, .long 17)]) (st2 := [.int (-1)]) jF_232_9 rfl rfl) ?_
                                          refine Eq.trans (jr_if0 jF_232_10 (by decide +kernel)) ?_
                                          refine Eq.trans (jr_s (pc2 := 14) (lv2 := [(0, .long 11), (2, .long 0), (4, .long 17)]) (st2 := [.int 1]) jF_232_13 rfl rfl) ?_
                                          refine Eq.trans (jr_s (pc2 := 18) (lv2 := [(0, .long 11), (2, .long 0), (4, .long 17)]) (st2 := [.int 1]) jF_232_14 rfl rfl) ?_
                                          exact jr_ri jF_232_18 rfl
                                        refine Eq.trans (jr_if0 jF_267_9 (by decide +kernel)) ?_
                                        refine Eq.trans (jr_s (pc2 := 13) (lv2 := [(0, .ref 117), (1, .int 11)]) (st2 := [.ref 117]) jF_267_12 rfl rfl) ?_
                                        refine Eq.trans (jr_gf (v := .ref 138) jF_267_13 (by decide +kernel)) ?_
                                        refine Eq.trans (jr_s (pc2 := 18) (lv2 := [(0, .ref 117), (1, .int 11)]) (st2 := [.int 18, .ref 138]) jF_267_16 rfl rfl) ?_
                                        refine Eq.trans (jr_s (pc2 := 19) (lv2 := [(0, .ref 117), (1, .int 11)]) (st2 := [.int 11, .int 18, .ref 138]) jF_267_18 rfl rfl) ?_
                                        refine Eq.trans (jr_s (pc2 := 20) (lv2 := [(0, .ref 117), (1, .int 11)]) (st2 := [.int 29, .ref 138]) jF_267_19 rfl rfl) ?_
                                        refine Eq.trans (jr_ldl (v := .long 0) jF_267_20 (by decide +kernel)) ?_
                                        exact jr_rl jF_267_21
                                      refine Eq.trans (jr_s (pc2 := 6) (lv2 := [(3, .long 0), (0, .ref 117), (1, .int 11), (2, .int a2)]) (st2 := []) jF_266_5 rfl rfl) ?_
                                      refine Eq.trans (jr_s (pc2 := 7) (lv2 := [(3, .long 0), (0, .ref 117), (1, .int 11), (2, .int a2)]) (st2 := [.long 0]) jF_266_6 rfl rfl) ?_
                                      refine Eq.trans (jr_s (pc2 := 8) (lv2 := [(3, .long 0), (0, .ref 117), (1, .int 11), (2, .int a2)]) (st2 := [.long 0, .long 0]) jF_266_7 rfl rfl) ?_
                                      refine Eq.trans (jr_s (pc2 := 9) (lv2 := [(3, .long 0), (0, .ref 117), (1, .int 11), (2, .int a2)]) (st2 := [.int 0]) jF_266_8 rfl rfl) ?_
                                      refine Eq.trans (jr_if1 jF_266_9 (by decide +kernel)) ?_
                                      refine Eq.trans (jr_s (pc2 := 25) (lv2 := [(3, .long 0), (0, .ref 117), (1, .int 11), (2, .int a2)]) (st2 := [.int (-1)]) jF_266_24 rfl rfl) ?_
                                      exact jr_ri jF_266_25 rfl
                                  · rcases j_ilt a1.toInt 13 with h_a1_13 | h_a1_13
                                    · obtain rfl : a1 = 12 := Int32.toInt_inj.mp (by rw [show (12 : Int32).toInt = 12 from by decide]; omega)
                                      refine ⟨60000, 60000, (-1), jh2, jh2, ?_, ?_, by decide +kernel⟩
                                      · refine Eq.trans (jr_s (pc2 := 1) (lv2 := [(0, .ref 9), (1, .int 12), (2, .int a2)]) (st2 := [.ref 9]) jF_92_0 rfl rfl) ?_
                                        refine Eq.trans (jr_gf (v := .ref 20) jF_92_1 (by decide +kernel)) ?_
                                        refine Eq.trans (jr_s (pc2 := 5) (lv2 := [(0, .ref 9), (1, .int 12), (2, .int a2)]) (st2 := [.int 12, .ref 20]) jF_92_4 rfl rfl) ?_
                                        refine Eq.trans (jr_s (pc2 := 6) (lv2 := [(0, .ref 9), (1, .int 12), (2, .int a2)]) (st2 := [.int a2, .int 12, .ref 20]) jF_92_5 rfl rfl) ?_
                                        refine Eq.trans (jr_cV (a := 20) (as := [.int 12, .int a2]) (rest := []) (v := some (.int (-1))) (hp2 := jh2) (fr2 := 499) (lo2 := 19978) jF_92_6 (by decide +kernel) rfl (show j_cnd 500 20000 499 19978 3 _ _ = true from rfl) ?_) ?_
                                        · refine Eq.trans (jr_s (pc2 := 1) (lv2 := [(0, .ref 20), (1, .int 12), (2, .int a2)]) (st2 := [.int 12]) jF_93_0 rfl rfl) ?_
                                          refine Eq.trans (jr_if0 jF_93_1 (by decide +kernel)) ?_
                                          refine Eq.trans (jr_s (pc2 := 5) (lv2 := [(0, .ref 20), (1, .int 12), (2, .int a2)]) (st2 := [.int 12]) jF_93_4 rfl rfl) ?_
                                          refine Eq.trans (jr_s (pc2 := 6) (lv2 := [(0, .ref 20), (1, .int 12), (2, .int a2)]) (st2 := [.ref 20, .int 12]) jF_93_5 rfl rfl) ?_
                                          refine Eq.trans (jr_gf (v := .ref 21) jF_93_6 (by decide +kernel)) ?_
                                          refine Eq.trans (jr_al (v := 25) jF_93_9 (by decide +kernel)) ?_
                                          refine Eq.trans (jr_ic0 jF_93_10 (by decide +kernel)) ?_
                                          refine Eq.trans (jr_s (pc2 := 14) (lv2 := [(0, .ref 20), (1, .int 12), (2, .int a2)]) (st2 := [.int a2]) jF_93_13 rfl rfl) ?_
                                          refine Eq.trans (jr_if0 jF_93_14 (jk_lt_ge (show (0 : Int32).toInt ≤ (a2 : Int32).toInt by rw [show (0 : Int32).toInt = 0 from by decide]; omega))) ?_
                                          refine Eq.trans (jr_s (pc2 := 18) (lv2 := [(0, .ref 20), (1, .int 12), (2, .int a2)]) (st2 := [.int a2]) jF_93_17 rfl rfl) ?_
                                          refine Eq.trans (jr_s (pc2 := 20) (lv2 := [(0, .ref 20), (1, .int 12), (2, .int a2)]) (st2 := [.int 6, .int a2]) jF_93_18 rfl rfl) ?_
                                          refine Eq.trans (jr_ic1 jF_93_20 (jk_ge_ge (show (6 : Int32).toInt ≤ (a2 : Int32).toInt by rw [show (6 : Int32).toInt = 6 from by decide]; omega))) ?_
                                          refine Eq.trans (jr_s (pc2 := 33) (lv2 := [(0, .ref 20), (1, .int 12), (2, .int a2)]) (st2 := [.int (-1)]) jF_93_32 rfl rfl) ?_
                                          exact jr_ri jF_93_33 rfl
                                        exact jr_ri jF_92_9 rfl
                                      · refine Eq.trans (jr_s (pc2 := 1) (lv2 := [(0, .ref 117), (1, .int 12), (2, .int a2)]) (st2 := [.ref 117]) jF_266_0 rfl rfl) ?_
                                        refine Eq.trans (jr_s (pc2 := 2) (lv2 := [(0, .ref 117), (1, .int 12), (2, .int a2)]) (st2 := [.int 12, .ref 117]) jF_266_1 rfl rfl) ?_
                                        refine Eq.trans (jr_cV (a := 117) (as := [.int 12]) (rest := []) (v := some (.long 0)) (hp2 := jh2) (fr2 := 499) (lo2 := 19979) jF_266_2 (by decide +kernel) rfl (show j_cnd 500 20000 499 19979 2 _ _ = true from rfl) ?_) ?_
                                        · refine Eq.trans (jr_s (pc2 := 1) (lv2 := [(0, .ref 117), (1, .int 12)]) (st2 := [.int 12]) jF_267_0 rfl rfl) ?_
                                          refine Eq.trans (jr_s (pc2 := 2) (lv2 := [(0, .ref 117), (1, .int 12)]) (st2 := [.long 12]) jF_267_1 rfl rfl) ?_
                                          refine Eq.trans (jr_s (pc2 := 3) (lv2 := [(0, .ref 117), (1, .int 12)]) (st2 := [.long 0, .long 12]) jF_267_2 rfl rfl) ?_
                                          refine Eq.trans (jr_s (pc2 := 6) (lv2 := [(0, .ref 117), (1, .int 12)]) (st2 := [.long 17, .long 0, .long 12]) jF_267_3 rfl rfl) ?_
                                          refine Eq.trans (jr_cS (as := [.long 12, .long 0, .long 17]) (rest := []) (v := some (.int 1)) (hp2 := jh2) (fr2 := 498) (lo2 := 19954) jF_267_6 rfl (show j_cnd 499 19979 498 19954 6 _ _ = true from rfl) ?_) ?_
                                          · refine Eq.trans (jr_s (pc2 := 1) (lv2 := [(0, .long 12), (2, .long 0), (4, .long 17)]) (st2 := [.long 12]) jF_232_0 rfl rfl) ?_
                                            refine Eq.trans (jr_s (pc2 := 2) (lv2 := [(0, .long 12), (2, .long 0), (4, .long 17)]) (st2 := [.long 0, .long 12]) jF_232_1 rfl rfl) ?_
                                            refine Eq.trans (jr_s (pc2 := 3) (lv2 := [(0, .long 12), (2, .long 0), (4, .long 17)]) (st2 := [.int 1]) jF_232_2 rfl rfl) ?_
                                            refine Eq.trans (jr_if0 jF_232_3 (by decide +kernel)) ?_
                                            refine Eq.trans (jr_s (pc2 := 7) (lv2 := [(0, .long 12), (2, .long 0), (4, .long 17)]) (st2 := [.long 12]) jF_232_6 rfl rfl) ?_
                                            refine Eq.trans (jr_s (pc2 := 9) (lv2 := [(0, .long 12), (2, .long 0), (4, .long 17)]) (st2 := [.long 17, .long 12]) jF_232_7 rfl rfl) ?_
                                            refine Eq.trans (jr_s (pc2 := 10) (lv2 := [(0, .long 12), (2, .long 0), (4, .long 17)]) (st2 := [.int (-1)]) jF_232_9 rfl rfl) ?_
                                            refine Eq.trans (jr_if0 jF_232_10 (by decide +kernel)) ?_
                                            refine Eq.trans (jr_s (pc2 := 14) (lv2 := [(0, .long 12), (2, .long 0), (4, .long 17)]) (st2 := [.int 1]) jF_232_13 rfl rfl) ?_
                                            refine Eq.trans (jr_s (pc2 := 18) (lv2 := [(0, .long 12), (2, .long 0), (4, .long 17)]) (st2 := [.int 1]) jF_232_14 rfl rfl) ?_
                                            exact jr_ri jF_232_18 rfl
                                          refine Eq.trans (jr_if0 jF_267_9 (by decide +kernel)) ?_
                                          refine Eq.trans (jr_s (pc2 := 13) (lv2 := [(0, .ref 117), (1, .int 12)]) (st2 := [.ref 117]) jF_267_12 rfl rfl) ?_
                                          refine Eq.trans (jr_gf (v := .ref 138) jF_267_13 (by decide +kernel)) ?_
                                          refine Eq.trans (jr_s (pc2 := 18) (lv2 := [(0, .ref 117), (1, .int 12)]) (st2 := [.int 18, .ref 138]) jF_267_16 rfl rfl) ?_
                                          refine Eq.trans (jr_s (pc2 := 19) (lv2 := [(0, .ref 117), (1, .int 12)]) (st2 := [.int 12, .int 18, .ref 138]) jF_267_18 rfl rfl) ?_
                                          refine Eq.trans (jr_s (pc2 := 20) (lv2 := [(0, .ref 117), (1, .int 12)]) (st2 := [.int 30, .ref 138]) jF_267_19 rfl rfl) ?_
                                          refine Eq.trans (jr_ldl (v := .long 0) jF_267_20 (by decide +kernel)) ?_
                                          exact jr_rl jF_267_21
                                        refine Eq.trans (jr_s (pc2 := 6) (lv2 := [(3, .long 0), (0, .ref 117), (1, .int 12), (2, .int a2)]) (st2 := []) jF_266_5 rfl rfl) ?_
                                        refine Eq.trans (jr_s (pc2 := 7) (lv2 := [(3, .long 0), (0, .ref 117), (1, .int 12), (2, .int a2)]) (st2 := [.long 0]) jF_266_6 rfl rfl) ?_
                                        refine Eq.trans (jr_s (pc2 := 8) (lv2 := [(3, .long 0), (0, .ref 117), (1, .int 12), (2, .int a2)]) (st2 := [.long 0, .long 0]) jF_266_7 rfl rfl) ?_
                                        refine Eq.trans (jr_s (pc2 := 9) (lv2 := [(3, .long 0), (0, .ref 117), (1, .int 12), (2, .int a2)]) (st2 := [.int 0]) jF_266_8 rfl rfl) ?_
                                        refine Eq.trans (jr_if1 jF_266_9 (by decide +kernel)) ?_
                                        refine Eq.trans (jr_s (pc2 := 25) (lv2 := [(3, .long 0), (0, .ref 117), (1, .int 12), (2, .int a2)]) (st2 := [.int (-1)]) jF_266_24 rfl rfl) ?_
                                        exact jr_ri jF_266_25 rfl
                                    · rcases j_ilt a1.toInt 14 with h_a1_14 | h_a1_14
                                      · obtain rfl : a1 = 13 := Int32.toInt_inj.mp (by rw [show (13 : Int32).toInt = 13 from by decide]; omega)
                                        refine ⟨60000, 60000, (-1), jh2, jh2, ?_, ?_, by decide +kernel⟩
                                        · refine Eq.trans (jr_s (pc2 := 1) (lv2 := [(0, .ref 9), (1, .int 13), (2, .int a2)]) (st2 := [.ref 9]) jF_92_0 rfl rfl) ?_
                                          refine Eq.trans (jr_gf (v := .ref 20) jF_92_1 (by decide +kernel)) ?_
                                          refine Eq.trans (jr_s (pc2 := 5) (lv2 := [(0, .ref 9), (1, .int 13), (2, .int a2)]) (st2 := [.int 13, .ref 20]) jF_92_4 rfl rfl) ?_
                                          refine Eq.trans (jr_s (pc2 := 6) (lv2 := [(0, .ref 9), (1, .int 13), (2, .int a2)]) (st2 := [.int a2, .int 13, .ref 20]) jF_92_5 rfl rfl) ?_
                                          refine Eq.trans (jr_cV (a := 20) (as := [.int 13, .int a2]) (rest := []) (v := some (.int (-1))) (hp2 := jh2) (fr2 := 499) (lo2 := 19978) jF_92_6 (by decide +kernel) rfl (show j_cnd 500 20000 499 19978 3 _ _ = true from rfl) ?_) ?_
                                          · refine Eq.trans (jr_s (pc2 := 1) (lv2 := [(0, .ref 20), (1, .int 13), (2, .int a2)]) (st2 := [.int 13]) jF_93_0 rfl rfl) ?_
                                            refine Eq.trans (jr_if0 jF_93_1 (by decide +kernel)) ?_
                                            refine Eq.trans (jr_s (pc2 := 5) (lv2 := [(0, .ref 20), (1, .int 13), (2, .int a2)]) (st2 := [.int 13]) jF_93_4 rfl rfl) ?_
                                            refine Eq.trans (jr_s (pc2 := 6) (lv2 := [(0, .ref 20), (1, .int 13), (2, .int a2)]) (st2 := [.ref 20, .int 13]) jF_93_5 rfl rfl) ?_
                                            refine Eq.trans (jr_gf (v := .ref 21) jF_93_6 (by decide +kernel)) ?_
                                            refine Eq.trans (jr_al (v := 25) jF_93_9 (by decide +kernel)) ?_
                                            refine Eq.trans (jr_ic0 jF_93_10 (by decide +kernel)) ?_
                                            refine Eq.trans (jr_s (pc2 := 14) (lv2 := [(0, .ref 20), (1, .int 13), (2, .int a2)]) (st2 := [.int a2]) jF_93_13 rfl rfl) ?_
                                            refine Eq.trans (jr_if0 jF_93_14 (jk_lt_ge (show (0 : Int32).toInt ≤ (a2 : Int32).toInt by rw [show (0 : Int32).toInt = 0 from by decide]; omega))) ?_
                                            refine Eq.trans (jr_s (pc2 := 18) (lv2 := [(0, .ref 20), (1, .int 13), (2, .int a2)]) (st2 := [.int a2]) jF_93_17 rfl rfl) ?_
                                            refine Eq.trans (jr_s (pc2 := 20) (lv2 := [(0, .ref 20), (1, .int 13), (2, .int a2)]) (st2 := [.int 6, .int a2]) jF_93_18 rfl rfl) ?_
                                            refine Eq.trans (jr_ic1 jF_93_20 (jk_ge_ge (show (6 : Int32).toInt ≤ (a2 : Int32).toInt by rw [show (6 : Int32).toInt = 6 from by decide]; omega))) ?_
                                            refine Eq.trans (jr_s (pc2 := 33) (lv2 := [(0, .ref 20), (1, .int 13), (2, .int a2)]) (st2 := [.int (-1)]) jF_93_32 rfl rfl) ?_
                                            exact jr_ri jF_93_33 rfl
                                          exact jr_ri jF_92_9 rfl
                                        · refine Eq.trans (jr_s (pc2 := 1) (lv2 := [(0, .ref 117), (1, .int 13), (2, .int a2)]) (st2 := [.ref 117]) jF_266_0 rfl rfl) ?_
                                          refine Eq.trans (jr_s (pc2 := 2) (lv2 := [(0, .ref 117), (1, .int 13), (2, .int a2)]) (st2 := [.int 13, .ref 117]) jF_266_1 rfl rfl) ?_
                                          refine Eq.trans (jr_cV (a := 117) (as := [.int 13]) (rest := []) (v := some (.long 0)) (hp2 := jh2) (fr2 := 499) (lo2 := 19979) jF_266_2 (by decide +kernel) rfl (show j_cnd 500 20000 499 19979 2 _ _ = true from rfl) ?_) ?_
                                          · refine Eq.trans (jr_s (pc2 := 1) (lv2 := [(0, .ref 117), (1, .int 13)]) (st2 := [.int 13]) jF_267_0 rfl rfl) ?_
                                            refine Eq.trans (jr_s (pc2 := 2) (lv2 := [(0, .ref 117), (1, .int 13)]) (st2 := [.long 13]) jF_267_1 rfl rfl) ?_
                                            refine Eq.trans (jr_s (pc2 := 3) (lv2 := [(0, .ref 117), (1, .int 13)]) (st2 := [.long 0, .long 13]) jF_267_2 rfl rfl) ?_
                                            refine Eq.trans (jr_s (pc2 := 6) (lv2 := [(0, .ref 117), (1, .int 13)]) (st2 := [.long 17, .long 0, .long 13]) jF_267_3 rfl rfl) ?_
                                            refine Eq.trans (jr_cS (as := [.long 13, .long 0, .long 17]) (rest := []) (v := some (.int 1)) (hp2 := jh2) (fr2 := 498) (lo2 := 19954) jF_267_6 rfl (show j_cnd 499 19979 498 19954 6 _ _ = true from rfl) ?_) ?_
                                            · refine Eq.trans (jr_s (pc2 := 1) (lv2 := [(0, .long 13), (2, .long 0), (4, .long 17)]) (st2 := [.long 13]) jF_232_0 rfl rfl) ?_
                                              refine Eq.trans (jr_s (pc2 := 2) (lv2 := [(0, .long 13), (2, .long 0), (4, .long 17)]) (st2 := [.long 0, .long 13]) jF_232_1 rfl rfl) ?_
                                              refine Eq.trans (jr_s (pc2 := 3) (lv2 := [(0, .long 13), (2, .long 0), (4, .long 17)]) (st2 := [.int 1]) jF_232_2 rfl rfl) ?_
                                              refine Eq.trans (jr_if0 jF_232_3 (by decide +kernel)) ?_
                                              refine Eq.trans (jr_s (pc2 := 7) (lv2 := [(0, .long 13), (2, .long 0), (4, .long 17)]) (st2 := [.long 13]) jF_232_6 rfl rfl) ?_
                                              refine Eq.trans (jr_s (pc2 := 9) (lv2 := [(0, .long 13), (2, .long 0), (4, .long 17)]) (st2 := [.long 17, .long 13]) jF_232_7 rfl rfl) ?_
                                              refine Eq.trans (jr_s (pc2 := 10) (lv2 := [(0, .long 13), (2, .long 0), (4, .long 17)]) (st2 := [.int (-1)]) jF_232_9 rfl rfl) ?_
                                              refine Eq.trans (jr_if0 jF_232_10 (by decide +kernel)) ?_
                                              refine Eq.trans (jr_s (pc2 := 14) (lv2 := [(0, .long 13), (2, .long 0), (4, .long 17)]) (st2 := [.int 1]) jF_232_13 rfl rfl) ?_
                                              refine Eq.trans (jr_s (pc2 := 18) (lv2 := [(0, .long 13), (2, .long 0), (4, .long 17)]) (st2 := [.int 1]) jF_232_14 rfl rfl) ?_
                                              exact jr_ri jF_232_18 rfl
                                            refine Eq.trans (jr_if0 jF_267_9 (by decide +kernel)) ?_
                                            refine Eq.trans (jr_s (pc2 := 13) (lv2 := [(0, .ref 117), (1, .int 13)]) (st2 := [.ref 117]) jF_267_12 rfl rfl) ?_
                                            refine Eq.trans (jr_gf (v := .ref 138) jF_267_13 (by decide +kernel)) ?_
                                            refine Eq.trans (jr_s (pc2 := 18) (lv2 := [(0, .ref 117), (1, .int 13)]) (st2 := [.int 18, .ref 138]) jF_267_16 rfl rfl) ?_
                                            refine Eq.trans (jr_s (pc2 := 19) (lv2 := [(0, .ref 117), (1, .int 13)]) (st2 := [.int 13, .int 18, .ref 138]) jF_267_18 rfl rfl) ?_
                                            refine Eq.trans (jr_s (pc2 := 20) (lv2 := [(0, .ref 117), (1, .int 13)]) (st2 := [.int 31, .ref 138]) jF_267_19 rfl rfl) ?_
                                            refine Eq.trans (jr_ldl (v := .long 0) jF_267_20 (by decide +kernel)) ?_
                                            exact jr_rl jF_267_21
                                          refine Eq.trans (jr_s (pc2 := 6) (lv2 := [(3, .long 0), (0, .ref 117), (1, .int 13), (2, .int a2)]) (st2 := []) jF_266_5 rfl rfl) ?_
                                          refine Eq.trans (jr_s (pc2 := 7) (lv2 := [(3, .long 0), (0, .ref 117), (1, .int 13), (2, .int a2)]) (st2 := [.long 0]) jF_266_6 rfl rfl) ?_
                                          refine Eq.trans (jr_s (pc2 := 8) (lv2 := [(3, .long 0), (0, .ref 117), (1, .int 13), (2, .int a2)]) (st2 := [.long 0, .long 0]) jF_266_7 rfl rfl) ?_
                                          refine Eq.trans (jr_s (pc2 := 9) (lv2 := [(3, .long 0), (0, .ref 117), (1, .int 13), (2, .int a2)]) (st2 := [.int 0]) jF_266_8 rfl rfl) ?_
                                          refine Eq.trans (jr_if1 jF_266_9 (by decide +kernel)) ?_
                                          refine Eq.trans (jr_s (pc2 := 25) (lv2 := [(3, .long 0), (0, .ref 117), (1, .int 13), (2, .int a2)]) (st2 := [.int (-1)]) jF_266_24 rfl rfl) ?_
                                          exact jr_ri jF_266_25 rfl
                                      · rcases j_ilt a1.toInt 15 with h_a1_15 | h_a1_15
                                        · obtain rfl : a1 = 14 := Int32.toInt_inj.mp (by rw [show (14 : Int32).toInt = 14 from by decide]; omega)
                                          refine ⟨60000, 60000, (-1), jh2, jh2, ?_, ?_, by decide +kernel⟩
                                          · refine Eq.trans (jr_s (pc2 := 1) (lv2 := [(0, .ref 9), (1, .int 14), (2, .int a2)]) (st2 := [.ref 9]) jF_92_0 rfl rfl) ?_
                                            refine Eq.trans (jr_gf (v := .ref 20) jF_92_1 (by decide +kernel)) ?_
                                            refine Eq.trans (jr_s (pc2 := 5) (lv2 := [(0, .ref 9), (1, .int 14), (2, .int a2)]) (st2 := [.int 14, .ref 20]) jF_92_4 rfl rfl) ?_
                                            refine Eq.trans (jr_s (pc2 := 6) (lv2 := [(0, .ref 9), (1, .int 14), (2, .int a2)]) (st2 := [.int a2, .int 14, .ref 20]) jF_92_5 rfl rfl) ?_
                                            refine Eq.trans (jr_cV (a := 20) (as := [.int 14, .int a2]) (rest := []) (v := some (.int (-1))) (hp2 := jh2) (fr2 := 499) (lo2 := 19978) jF_92_6 (by decide +kernel) rfl (show j_cnd 500 20000 499 19978 3 _ _ = true from rfl) ?_) ?_
                                            · refine Eq.trans (jr_s (pc2 := 1) (lv2 := [(0, .ref 20), (1, .int 14), (2, .int a2)]) (st2 := [.int 14]) jF_93_0 rfl rfl) ?_
                                              refine Eq.trans (jr_if0 jF_93_1 (by decide +kernel)) ?_
                                              refine Eq.trans (jr_s (pc2 := 5) (lv2 := [(0, .ref 20), (1, .int 14), (2, .int a2)]) (st2 := [.int 14]) jF_93_4 rfl rfl) ?_
                                              refine Eq.trans (jr_s (pc2 := 6) (lv2 := [(0, .ref 20), (1, .int 14), (2, .int a2)]) (st2 := [.ref 20, .int 14]) jF_93_5 rfl rfl) ?_
                                              refine Eq.trans (jr_gf (v := .ref 21) jF_93_6 (by decide +kernel)) ?_
                                              refine Eq.trans (jr_al (v := 25) jF_93_9 (by decide +kernel)) ?_
                                              refine Eq.trans (jr_ic0 jF_93_10 (by decide +kernel)) ?_
                                              refine Eq.trans (jr_s (pc2 := 14) (lv2 := [(0, .ref 20), (1, .int 14), (2, .int a2)]) (st2 := [.int a2]) jF_93_13 rfl rfl) ?_
                                              refine Eq.trans (jr_if0 jF_93_14 (jk_lt_ge (show (0 : Int32).toInt ≤ (a2 : Int32).toInt by rw [show (0 : Int32).toInt = 0 from by decide]; omega))) ?_
                                              refine Eq.trans (jr_s (pc2 := 18) (lv2 := [(0, .ref 20), (1, .int 14), (2, .int a2)]) (st2 := [.int a2]) jF_93_17 rfl rfl) ?_
                                              refine Eq.trans (jr_s (pc2 := 20) (lv2 := [(0, .ref 20), (1, .int 14), (2, .int a2)]) (st2 := [.int 6, .int a2]) jF_93_18 rfl rfl) ?_
                                              refine Eq.trans (jr_ic1 jF_93_20 (jk_ge_ge (show (6 : Int32).toInt ≤ (a2 : Int32).toInt by rw [show (6 : Int32).toInt = 6 from by decide]; omega))) ?_
                                              refine Eq.trans (jr_s (pc2 := 33) (lv2 := [(0, .ref 20), (1, .int 14), (2, .int a2)]) (st2 := [.int (-1)]) jF_93_32 rfl rfl) ?_
                                              exact jr_ri jF_93_33 rfl
                                            exact jr_ri jF_92_9 rfl
                                          · refine Eq.trans (jr_s (pc2 := 1) (lv2 := [(0, .ref 117), (1, .int 14), (2, .int a2)]) (st2 := [.ref 117]) jF_266_0 rfl rfl) ?_
                                            refine Eq.trans (jr_s (pc2 := 2) (lv2 := [(0, .ref 117), (1, .int 14), (2, .int a2)]) (st2 := [.int 14, .ref 117]) jF_266_1 rfl rfl) ?_
                                            refine Eq.trans (jr_cV (a := 117) (as := [.int 14]) (rest := []) (v := some (.long 0)) (hp2 := jh2) (fr2 := 499) (lo2 := 19979) jF_266_2 (by decide +kernel) rfl (show j_cnd 500 20000 499 19979 2 _ _ = true from rfl) ?_) ?_
                                            · refine Eq.trans (jr_s (pc2 := 1) (lv2 := [(0, .ref 117), (1, .int 14)]) (st2 := [.int 14]) jF_267_0 rfl rfl) ?_
                                              refine Eq.trans (jr_s (pc2 := 2) (lv2 := [(0, .ref 117), (1, .int 14)]) (st2 := [.long 14]) jF_267_1 rfl rfl) ?_
                                              refine Eq.trans (jr_s (pc2 := 3) (lv2 := [(0, .ref 117), (1, .int 14)]) (st2 := [.long 0, .long 14]) jF_267_2 rfl rfl) ?_
                                              refine Eq.trans (jr_s (pc2 := 6) (lv2 := [(0, .ref 117), (1, .int 14)]) (st2 := [.long 17, .long 0, .long 14]) jF_267_3 rfl rfl) ?_
                                              refine Eq.trans (jr_cS (as := [.long 14, .long 0, .long 17]) (rest := []) (v := some (.int 1)) (hp2 := jh2) (fr2 := 498) (lo2 := 19954) jF_267_6 rfl (show j_cnd 499 19979 498 19954 6 _ _ = true from rfl) ?_) ?_
                                              · refine Eq.trans (jr_s (pc2 := 1) (lv2 := [(0, .long 14), (2, .long 0), (4, .long 17)]) (st2 := [.long 14]) jF_232_0 rfl rfl) ?_
                                                refine Eq.trans (jr_s (pc2 := 2) (lv2 := [(0, .long 14), (2, .long 0), (4, .long 17)]) (st2 := [.long 0, .long 14]) jF_232_1 rfl rfl) ?_
                                                refine Eq.trans (jr_s (pc2 := 3) (lv2 := [(0, .long 14), (2, .long 0), (4, .long 17)]) (st2 := [.int 1]) jF_232_2 rfl rfl) ?_
                                                refine Eq.trans (jr_if0 jF_232_3 (by decide +kernel)) ?_
                                                refine Eq.trans (jr_s (pc2 := 7) (lv2 := [(0, .long 14), (2, .long 0), (4, .long 17)]) (st2 := [.long 14]) jF_232_6 rfl rfl) ?_
                                                refine Eq.trans (jr_s (pc2 := 9) (lv2 := [(0, .long 14), (2, .long 0), (4, .long 17)]) (st2 := [.long 17, .long 14]) jF_232_7 rfl rfl) ?_
                                                refine Eq.trans (jr_s (pc2 := 10) (lv2 := [(0, .long 14), (2, .long 0), (4, .long 17)]) (st2 := [.int (-1)]) jF_232_9 rfl rfl) ?_
                                                refine Eq.trans (jr_if0 jF_232_10 (by decide +kernel)) ?_
                                                refine Eq.trans (jr_s (pc2 := 14) (lv2 := [(0, .long 14), (2, .long 0), (4, .long 17)]) (st2 := [.int 1]) jF_232_13 rfl rfl) ?_
                                                refine Eq.trans (jr_s (pc2 := 18) (lv2 := [(0, .long 14), (2, .long 0), (4, .long 17)]) (st2 := [.int 1]) jF_232_14 rfl rfl) ?_
                                                exact jr_ri jF_232_18 rfl
                                              refine Eq.trans (jr_if0 jF_267_9 (by decide +kernel)) ?_
                                              refine Eq.trans (jr_s (pc2 := 13) (lv2 := [(0, .ref 117), (1, .int 14)]) (st2 := [.ref 117]) jF_267_12 rfl rfl) ?_
                                              refine Eq.trans (jr_gf (v := .ref 138) jF_267_13 (by decide +kernel)) ?_
                                              refine Eq.trans (jr_s (pc2 := 18) (lv2 := [(0, .ref 117), (1, .int 14)]) (st2 := [.int 18, .ref 138]) jF_267_16 rfl rfl) ?_
                                              refine Eq.trans (jr_s (pc2 := 19) (lv2 := [(0, .ref 117), (1, .int 14)]) (st2 := [.int 14, .int 18, .ref 138]) jF_267_18 rfl rfl) ?_
                                              refine Eq.trans (jr_s (pc2 := 20) (lv2 := [(0, .ref 117), (1, .int 14)]) (st2 := [.int 32, .ref 138]) jF_267_19 rfl rfl) ?_
                                              refine Eq.trans (jr_ldl (v := .long 0) jF_267_20 (by decide +kernel)) ?_
                                              exact jr_rl jF_267_21
                                            refine Eq.trans (jr_s (pc2 := 6) (lv2 := [(3, .long 0), (0, .ref 117), (1, .int 14), (2, .int a2)]) (st2 := []) jF_266_5 rfl rfl) ?_
                                            refine Eq.trans (jr_s (pc2 := 7) (lv2 := [(3, .long 0), (0, .ref 117), (1, .int 14), (2, .int a2)]) (st2 := [.long 0]) jF_266_6 rfl rfl) ?_
                                            refine Eq.trans (jr_s (pc2 := 8) (lv2 := [(3, .long 0), (0, .ref 117), (1, .int 14), (2, .int a2)]) (st2 := [.long 0, .long 0]) jF_266_7 rfl rfl) ?_
                                            refine Eq.trans (jr_s (pc2 := 9) (lv2 := [(3, .long 0), (0, .ref 117), (1, .int 14), (2, .int a2)]) (st2 := [.int 0]) jF_266_8 rfl rfl) ?_
                                            refine Eq.trans (jr_if1 jF_266_9 (by decide +kernel)) ?_
                                            refine Eq.trans (jr_s (pc2 := 25) (lv2 := [(3, .long 0), (0, .ref 117), (1, .int 14), (2, .int a2)]) (st2 := [.int (-1)]) jF_266_24 rfl rfl) ?_
                                            exact jr_ri jF_266_25 rfl
                                        · rcases j_ilt a1.toInt 16 with h_a1_16 | h_a1_16
                                          · obtain rfl : a1 = 15 := Int32.toInt_inj.mp (by rw [show (15 : Int32).toInt = 15 from by decide]; omega)
                                            refine ⟨60000, 60000, (-1), jh2, jh2, ?_, ?_, by decide +kernel⟩
                                            · refine Eq.trans (jr_s (pc2 := 1) (lv2 := [(0, .ref 9), (1, .int 15), (2, .int a2)]) (st2 := [.ref 9]) jF_92_0 rfl rfl) ?_
                                              refine Eq.trans (jr_gf (v := .ref 20) jF_92_1 (by decide +kernel)) ?_
                                              refine Eq.trans (jr_s (pc2 := 5) (lv2 := [(0, .ref 9), (1, .int 15), (2, .int a2)]) (st2 := [.int 15, .ref 20]) jF_92_4 rfl rfl) ?_
                                              refine Eq.trans (jr_s (pc2 := 6) (lv2 := [(0, .ref 9), (1, .int 15), (2, .int a2)]) (st2 := [.int a2, .int 15, .ref 20]) jF_92_5 rfl rfl) ?_
                                              refine Eq.trans (jr_cV (a := 20) (as := [.int 15, .int a2]) (rest := []) (v := some (.int (-1))) (hp2 := jh2) (fr2 := 499) (lo2 := 19978) jF_92_6 (by decide +kernel) rfl (show j_cnd 500 20000 499 19978 3 _ _ = true from rfl) ?_) ?_
                                              · refine Eq.trans (jr_s (pc2 := 1) (lv2 := [(0, .ref 20), (1, .int 15), (2, .int a2)]) (st2 := [.int 15]) jF_93_0 rfl rfl) ?_
                                                refine Eq.trans (jr_if0 jF_93_1 (by decide +kernel)) ?_
                                                refine Eq.trans (jr_s (pc2 := 5) (lv2 := [(0, .ref 20), (1, .int 15), (2, .int a2)]) (st2 := [.int 15]) jF_93_4 rfl rfl) ?_
                                                refine Eq.trans (jr_s (pc2 := 6) (lv2 := [(0, .ref 20), (1, .int 15), (2, .int a2)]) (st2 := [.ref 20, .int 15]) jF_93_5 rfl rfl) ?_
                                                refine Eq.trans (jr_gf (v := .ref 21) jF_93_6 (by decide +kernel)) ?_
                                                refine Eq.trans (jr_al (v := 25) jF_93_9 (by decide +kernel)) ?_
                                                refine Eq.trans (jr_ic0 jF_93_10 (by decide +kernel)) ?_
                                                refine Eq.trans (jr_s (pc2 := 14) (lv2 := [(0, .ref 20), (1, .int 15), (2, .int a2)]) (st2 := [.int a2]) jF_93_13 rfl rfl) ?_
                                                refine Eq.trans (jr_if0 jF_93_14 (jk_lt_ge (show (0 : Int32).toInt ≤ (a2 : Int32).toInt by rw [show (0 : Int32).toInt = 0 from by decide]; omega))) ?_
                                                refine Eq.trans (jr_s (pc2 := 18) (lv2 := [(0, .ref 20), (1, .int 15), (2, .int a2)]) (st2 := [.int a2]) jF_93_17 rfl rfl) ?_
                                                refine Eq.trans (jr_s (pc2 := 20) (lv2 := [(0, .ref 20), (1, .int 15), (2, .int a2)]) (st2 := [.int 6, .int a2]) jF_93_18 rfl rfl) ?_
                                                refine Eq.trans (jr_ic1 jF_93_20 (jk_ge_ge (show (6 : Int32).toInt ≤ (a2 : Int32).toInt by rw [show (6 : Int32).toInt = 6 from by decide]; omega))) ?_
                                                refine Eq.trans (jr_s (pc2 := 33) (lv2 := [(0, .ref 20), (1, .int 15), (2, .int a2)]) (st2 := [.int (-1)]) jF_93_32 rfl rfl) ?_
                                                exact jr_ri jF_93_33 rfl
                                              exact jr_ri jF_92_9 rfl
                                            · refine Eq.trans (jr_s (pc2 := 1) (lv2 := [(0, .ref 117), (1, .int 15), (2, .int a2)]) (st2 := [.ref 117]) jF_266_0 rfl rfl) ?_
                                              refine Eq.trans (jr_s (pc2 := 2) (lv2 := [(0, .ref 117), (1, .int 15), (2, .int a2)]) (st2 := [.int 15, .ref 117]) jF_266_1 rfl rfl) ?_
                                              refine Eq.trans (jr_cV (a := 117) (as := [.int 15]) (rest := []) (v := some (.long 0)) (hp2 := jh2) (fr2 := 499) (lo2 := 19979) jF_266_2 (by decide +kernel) rfl (show j_cnd 500 20000 499 19979 2 _ _ = true from rfl) ?_) ?_
                                              · refine Eq.trans (jr_s (pc2 := 1) (lv2 := [(0, .ref 117), (1, .int 15)]) (st2 := [.int 15]) jF_267_0 rfl rfl) ?_
                                                refine Eq.trans (jr_s (pc2 := 2) (lv2 := [(0, .ref 117), (1, .int 15)]) (st2 := [.long 15]) jF_267_1 rfl rfl) ?_
                                                refine Eq.trans (jr_s (pc2 := 3) (lv2 := [(0, .ref 117), (1, .int 15)]) (st2 := [.long 0, .long 15]) jF_267_2 rfl rfl) ?_
                                                refine Eq.trans (jr_s (pc2 := 6) (lv2 := [(0, .ref 117), (1, .int 15)]) (st2 := [.long 17, .long 0, .long 15]) jF_267_3 rfl rfl) ?_
                                                refine Eq.trans (jr_cS (as := [.long 15, .long 0, .long 17]) (rest := []) (v := some (.int 1)) (hp2 := jh2) (fr2 := 498) (lo2 := 19954) jF_267_6 rfl (show j_cnd 499 19979 498 19954 6 _ _ = true from rfl) ?_) ?_
                                                · refine Eq.trans (jr_s (pc2 := 1) (lv2 := [(0, .long 15), (2, .long 0), (4, .long 17)]) (st2 := [.long 15]) jF_232_0 rfl rfl) ?_
                                                  refine Eq.trans (jr_s (pc2 := 2) (lv2 := [(0, .long 15), (2, .long 0), (4, .long 17)]) (st2 := [.long 0, .long 15]) jF_232_1 rfl rfl) ?_
                                                  refine Eq.trans (jr_s (pc2 := 3) (lv2 := [(0, .long 15), (2, .long 0), (4, .long 17)]) (st2 := [.int 1]) jF_232_2 rfl rfl) ?_
                                                  refine Eq.trans (jr_if0 jF_232_3 (by decide +kernel)) ?_
                                                  refine Eq.trans (jr_s (pc2 := 7) (lv2 := [(0, .long 15), (2, .long 0), (4, .long 17)]) (st2 := [.long 15]) jF_232_6 rfl rfl) ?_
                                                  refine Eq.trans (jr_s (pc2 := 9) (lv2 := [(0, .long 15), (2, .long 0), (4, .long 17)]) (st2 := [.long 17, .long 15]) jF_232_7 rfl rfl) ?_
                                                  refine Eq.trans (jr_s (pc2 := 10) (lv2 := [(0, .long 15), (2, .long 0), (4, .long 17)]) (st2 := [.int (-1)]) jF_232_9 rfl rfl) ?_
                                                  refine Eq.trans (jr_if0 jF_232_10 (by decide +kernel)) ?_
                                                  refine Eq.trans (jr_s (pc2 := 14) (lv2 := [(0, .long 15), (2, .long 0), (4, .long 17)]) (st2 := [.int 1]) jF_232_13 rfl rfl) ?_
                                                  refine Eq.trans (jr_s (pc2 := 18) (lv2 := [(0, .long 15), (2, .long 0), (4, .long 17)]) (st2 := [.int 1]) jF_232_14 rfl rfl) ?_
                                                  exact jr_ri jF_232_18 rfl
                                                refine Eq.trans (jr_if0 jF_267_9 (by decide +kernel)) ?_
                                                refine Eq.trans (jr_s (pc2 := 13) (lv2 := [(0, .ref 117), (1, .int 15)]) (st2 := [.ref 117]) jF_267_12 rfl rfl) ?_
                                                refine Eq.trans (jr_gf (v := .ref 138) jF_267_13 (by decide +kernel)) ?_
                                                refine Eq.trans (jr_s (pc2 := 18) (lv2 := [(0, .ref 117), (1, .int 15)]) (st2 := [.int 18, .ref 138]) jF_267_16 rfl rfl) ?_
                                                refine Eq.trans (jr_s (pc2 := 19) (lv2 := [(0, .ref 117), (1, .int 15)]) (st2 := [.int 15, .int 18, .ref 138]) jF_267_18 rfl rfl) ?_
                                                refine Eq.trans (jr_s (pc2 := 20) (lv2 := [(0, .ref 117), (1, .int 15)]) (st2 := [.int 33, .ref 138]) jF_267_19 rfl rfl) ?_
                                                refine Eq.trans (jr_ldl (v := .long 0) jF_267_20 (by decide +kernel)) ?_
                                                exact jr_rl jF_267_21
                                              refine Eq.trans (jr_s (pc2 := 6) (lv2 := [(3, .long 0), (0, .ref 117), (1, .int 15), (2, .int a2)]) (st2 := []) jF_266_5 rfl rfl) ?_
                                              refine Eq.trans (jr_s (pc2 := 7) (lv2 := [(3, .long 0), (0, .ref 117), (1, .int 15), (2, .int a2)]) (st2 := [.long 0]) jF_266_6 rfl rfl) ?_
                                              refine Eq.trans (jr_s (pc2 := 8) (lv2 := [(3, .long 0), (0, .ref 117), (1, .int 15), (2, .int a2)]) (st2 := [.long 0, .long 0]) jF_266_7 rfl rfl) ?_
                                              refine Eq.trans (jr_s (pc2 := 9) (lv2 := [(3, .long 0), (0, .ref 117), (1, .int 15), (2, .int a2)]) (st2 := [.int 0]) jF_266_8 rfl rfl) ?_
                                              refine Eq.trans (jr_if1 jF_266_9 (by decide +kernel)) ?_
                                              refine Eq.trans (jr_s (pc2 := 25) (lv2 := [(3, .long 0), (0, .ref 117), (1, .int 15), (2, .int a2)]) (st2 := [.int (-1)]) jF_266_24 rfl rfl) ?_
                                              exact jr_ri jF_266_25 rfl
                                          · rcases j_ilt a1.toInt 17 with h_a1_17 | h_a1_17
                                            · obtain rfl : a1 = 16 := Int32.toInt_inj.mp (by rw [show (16 : Int32).toInt = 16 from by decide]; omega)
                                              refine ⟨60000, 60000, (-1), jh2, jh2, ?_, ?_, by decide +kernel⟩
                                              · refine Eq.trans (jr_s (pc2 := 1) (lv2 := [(0, .ref 9), (1, .int 16), (2, .int a2)]) (st2 := [.ref 9]) jF_92_0 rfl rfl) ?_
                                                refine Eq.trans (jr_gf (v := .ref 20) jF_92_1 (by decide +kernel)) ?_
                                                refine Eq.trans (jr_s (pc2 := 5) (lv2 := [(0, .ref 9), (1, .int 16), (2, .int a2)]) (st2 := [.int 16, .ref 20]) jF_92_4 rfl rfl) ?_
                                                refine Eq.trans (jr_s (pc2 := 6) (lv2 := [(0, .ref 9), (1, .int 16), (2, .int a2)]) (st2 := [.int a2, .int 16, .ref 20]) jF_92_5 rfl rfl) ?_
                                                refine Eq.trans (jr_cV (a := 20) (as := [.int 16, .int a2]) (rest := []) (v := some (.int (-1))) (hp2 := jh2) (fr2 := 499) (lo2 := 19978) jF_92_6 (by decide +kernel) rfl (show j_cnd 500 20000 499 19978 3 _ _ = true from rfl) ?_) ?_
                                                · refine Eq.trans (jr_s (pc2 := 1) (lv2 := [(0, .ref 20), (1, .int 16), (2, .int a2)]) (st2 := [.int 16]) jF_93_0 rfl rfl) ?_
                                                  refine Eq.trans (jr_if0 jF_93_1 (by decide +kernel)) ?_
                                                  refine Eq.trans (jr_s (pc2 := 5) (lv2 := [(0, .ref 20), (1, .int 16), (2, .int a2)]) (st2 := [.int 16]) jF_93_4 rfl rfl) ?_
                                                  refine Eq.trans (jr_s (pc2 := 6) (lv2 := [(0, .ref 20), (1, .int 16), (2, .int a2)]) (st2 := [.ref 20, .int 16]) jF_93_5 rfl rfl) ?_
                                                  refine Eq.trans (jr_gf (v := .ref 21) jF_93_6 (by decide +kernel)) ?_
                                                  refine Eq.trans (jr_al (v := 25) jF_93_9 (by decide +kernel)) ?_
                                                  refine Eq.trans (jr_ic0 jF_93_10 (by decide +kernel)) ?_
                                                  refine Eq.trans (jr_s (pc2 := 14) (lv2 := [(0, .ref 20), (1, .int 16), (2, .int a2)]) (st2 := [.int a2]) jF_93_13 rfl rfl) ?_
                                                  refine Eq.trans (jr_if0 jF_93_14 (jk_lt_ge (show (0 : Int32).toInt ≤ (a2 : Int32).toInt by rw [show (0 : Int32).toInt = 0 from by decide]; omega))) ?_
                                                  refine Eq.trans (jr_s (pc2 := 18) (lv2 := [(0, .ref 20), (1, .int 16), (2, .int a2)]) (st2 := [.int a2]) jF_93_17 rfl rfl) ?_
                                                  refine Eq.trans (jr_s (pc2 := 20) (lv2 := [(0, .ref 20), (1, .int 16), (2, .int a2)]) (st2 := [.int 6, .int a2]) jF_93_18 rfl rfl) ?_
                                                  refine Eq.trans (jr_ic1 jF_93_20 (jk_ge_ge (show (6 : Int32).toInt ≤ (a2 : Int32).toInt by rw [show (6 : Int32).toInt = 6 from by decide]; omega))) ?_
                                                  refine Eq.trans (jr_s (pc2 := 33) (lv2 := [(0, .ref 20), (1, .int 16), (2, .int a2)]) (st2 := [.int (-1)]) jF_93_32 rfl rfl) ?_
                                                  exact jr_ri jF_93_33 rfl
                                                exact jr_ri jF_92_9 rfl
                                              · refine Eq.trans (jr_s (pc2 := 1) (lv2 := [(0, .ref 117), (1, .int 16), (2, .int a2)]) (st2 := [.ref 117]) jF_266_0 rfl rfl) ?_
                                                refine Eq.trans (jr_s (pc2 := 2) (lv2 := [(0, .ref 117), (1, .int 16), (2, .int a2)]) (st2 := [.int 16, .ref 117]) jF_266_1 rfl rfl) ?_
                                                refine Eq.trans (jr_cV (a := 117) (as := [.int 16]) (rest := []) (v := some (.long 0)) (hp2 := jh2) (fr2 := 499) (lo2 := 19979) jF_266_2 (by decide +kernel) rfl (show j_cnd 500 20000 499 19979 2 _ _ = true from rfl) ?_) ?_
                                                · refine Eq.trans (jr_s (pc2 := 1) (lv2 := [(0, .ref 117), (1, .int 16)]) (st2 := [.int 16]) jF_267_0 rfl rfl) ?_
                                                  refine Eq.trans (jr_s (pc2 := 2) (lv2 := [(0, .ref 117), (1, .int 16)]) (st2 := [.long 16]) jF_267_1 rfl rfl) ?_
                                                  refine Eq.trans (jr_s (pc2 := 3) (lv2 := [(0, .ref 117), (1, .int 16)]) (st2 := [.long 0, .long 16]) jF_267_2 rfl rfl) ?_
                                                  refine Eq.trans (jr_s (pc2 := 6) (lv2 := [(0, .ref 117), (1, .int 16)]) (st2 := [.long 17, .long 0, .long 16]) jF_267_3 rfl rfl) ?_
                                                  refine Eq.trans (jr_cS (as := [.long 16, .long 0, .long 17]) (rest := []) (v := some (.int 1)) (hp2 := jh2) (fr2 := 498) (lo2 := 19954) jF_267_6 rfl (show j_cnd 499 19979 498 19954 6 _ _ = true from rfl) ?_) ?_
                                                  · refine Eq.trans (jr_s (pc2 := 1) (lv2 := [(0, .long 16), (2, .long 0), (4, .long 17)]) (st2 := [.long 16]) jF_232_0 rfl rfl) ?_
                                                    refine Eq.trans (jr_s (pc2 := 2) (lv2 := [(0, .long 16), (2, .long 0), (4, .long 17)]) (st2 := [.long 0, .long 16]) jF_232_1 rfl rfl) ?_
                                                    refine Eq.trans (jr_s (pc2 := 3) (lv2 := [(0, .long 16), (2, .long 0), (4, .long 17)]) (st2 := [.int 1]) jF_232_2 rfl rfl) ?_
                                                    refine Eq.trans (jr_if0 jF_232_3 (by decide +kernel)) ?_
                                                    refine Eq.trans (jr_s (pc2 := 7) (lv2 := [(0, .long 16), (2, .long 0), (4, .long 17)]) (st2 := [.long 16]) jF_232_6 rfl rfl) ?_
                                                    refine Eq.trans (jr_s (pc2 := 9) (lv2 := [(0, .long 16), (2, .long 0), (4, .long 17)]) (st2 := [.long 17, .long 16]) jF_232_7 rfl rfl) ?_
                                                    refine Eq.trans (jr_s (pc2 := 10) (lv2 := [(0, .long 16), (2, .long 0), (4, .long 17)]) (st2 := [.int (-1)]) jF_232_9 rfl rfl) ?_
                                                    refine Eq.trans (jr_if0 jF_232_10 (by decide +kernel)) ?_
                                                    refine Eq.trans (jr_s (pc2 := 14) (lv2 := [(0, .long 16), (2, .long 0), (4, .long 17)]) (st2 := [.int 1]) jF_232_13 rfl rfl) ?_
                                                    refine Eq.trans (jr_s (pc2 := 18) (lv2 := [(0, .long 16), (2, .long 0), (4, .long 17)]) (st2 := [.int 1]) jF_232_14 rfl rfl) ?_
                                                    exact jr_ri jF_232_18 rfl
                                                  refine Eq.trans (jr_if0 jF_267_9 (by decide +kernel)) ?_
                                                  refine Eq.trans (jr_s (pc2 := 13) (lv2 := [(0, .ref 117), (1, .int 16)]) (st2 := [.ref 117]) jF_267_12 rfl rfl) ?_
                                                  refine Eq.trans (jr_gf (v := .ref 138) jF_267_13 (by decide +kernel)) ?_
                                                  refine Eq.trans (jr_s (pc2 := 18) (lv2 := [(0, .ref 117), (1, .int 16)]) (st2 := [.int 18, .ref 138]) jF_267_16 rfl rfl) ?_
                                                  refine Eq.trans (jr_s (pc2 := 19) (lv2 := [(0, .ref 117), (1, .int 16)]) (st2 := [.int 16, .int 18, .ref 138]) jF_267_18 rfl rfl) ?_
                                                  refine Eq.trans (jr_s (pc2 := 20) (lv2 := [(0, .ref 117), (1, .int 16)]) (st2 := [.int 34, .ref 138]) jF_267_19 rfl rfl) ?_
                                                  refine Eq.trans (jr_ldl (v := .long 0) jF_267_20 (by decide +kernel)) ?_
                                                  exact jr_rl jF_267_21
                                                refine Eq.trans (jr_s (pc2 := 6) (lv2 := [(3, .long 0), (0, .ref 117), (1, .int 16), (2, .int a2)]) (st2 := []) jF_266_5 rfl rfl) ?_
                                                refine Eq.trans (jr_s (pc2 := 7) (lv2 := [(3, .long 0), (0, .ref 117), (1, .int 16), (2, .int a2)]) (st2 := [.long 0]) jF_266_6 rfl rfl) ?_
                                                refine Eq.trans (jr_s (pc2 := 8) (lv2 := [(3, .long 0), (0, .ref 117), (1, .int 16), (2, .int a2)]) (st2 := [.long 0, .long 0]) jF_266_7 rfl rfl) ?_
                                                refine Eq.trans (jr_s (pc2 := 9) (lv2 := [(3, .long 0), (0, .ref 117), (1, .int 16), (2, .int a2)]) (st2 := [.int 0]) jF_266_8 rfl rfl) ?_
                                                refine Eq.trans (jr_if1 jF_266_9 (by decide +kernel)) ?_
                                                refine Eq.trans (jr_s (pc2 := 25) (lv2 := [(3, .long 0), (0, .ref 117), (1, .int 16), (2, .int a2)]) (st2 := [.int (-1)]) jF_266_24 rfl rfl) ?_
                                                exact jr_ri jF_266_25 rfl
                                            · obtain rfl : a1 = 17 := Int32.toInt_inj.mp (by rw [show (17 : Int32).toInt = 17 from by decide]; omega)
                                              refine ⟨60000, 60000, (-1), jh2, jh2, ?_, ?_, by decide +kernel⟩
                                              · refine Eq.trans (jr_s (pc2 := 1) (lv2 := [(0, .ref 9), (1, .int 17), (2, .int a2)]) (st2 := [.ref 9]) jF_92_0 rfl rfl) ?_
                                                refine Eq.trans (jr_gf (v := .ref 20) jF_92_1 (by decide +kernel)) ?_
                                                refine Eq.trans (jr_s (pc2 := 5) (lv2 := [(0, .ref 9), (1, .int 17), (2, .int a2)]) (st2 := [.int 17, .ref 20]) jF_92_4 rfl rfl) ?_
                                                refine Eq.trans (jr_s (pc2 := 6) (lv2 := [(0, .ref 9), (1, .int 17), (2, .int a2)]) (st2 := [.int a2, .int 17, .ref 20]) jF_92_5 rfl rfl) ?_
                                                refine Eq.trans (jr_cV (a := 20) (as := [.int 17, .int a2]) (rest := []) (v := some (.int (-1))) (hp2 := jh2) (fr2 := 499) (lo2 := 19978) jF_92_6 (by decide +kernel) rfl (show j_cnd 500 20000 499 19978 3 _ _ = true from rfl) ?_) ?_
                                                · refine Eq.trans (jr_s (pc2 := 1) (lv2 := [(0, .ref 20), (1, .int 17), (2, .int a2)]) (st2 := [.int 17]) jF_93_0 rfl rfl) ?_
                                                  refine Eq.trans (jr_if0 jF_93_1 (by decide +kernel)) ?_
                                                  refine Eq.trans (jr_s (pc2 := 5) (lv2 := [(0, .ref 20), (1, .int 17), (2, .int a2)]) (st2 := [.int 17]) jF_93_4 rfl rfl) ?_
                                                  refine Eq.trans (jr_s (pc2 := 6) (lv2 := [(0, .ref 20), (1, .int 17), (2, .int a2)]) (st2 := [.ref 20, .int 17]) jF_93_5 rfl rfl) ?_
                                                  refine Eq.trans (jr_gf (v := .ref 21) jF_93_6 (by decide +kernel)) ?_
                                                  refine Eq.trans (jr_al (v := 25) jF_93_9 (by decide +kernel)) ?_
                                                  refine Eq.trans (jr_ic0 jF_93_10 (by decide +kernel)) ?_
                                                  refine Eq.trans (jr_s (pc2 := 14) (lv2 := [(0, .ref 20), (1, .int 17), (2, .int a2)]) (st2 := [.int a2]) jF_93_13 rfl rfl) ?_
                                                  refine Eq.trans (jr_if0 jF_93_14 (jk_lt_ge (show (0 : Int32).toInt ≤ (a2 : Int32).toInt by rw [show (0 : Int32).toInt = 0 from by decide]; omega))) ?_
                                                  refine Eq.trans (jr_s (pc2 := 18) (lv2 := [(0, .ref 20), (1, .int 17), (2, .int a2)]) (st2 := [.int a2]) jF_93_17 rfl rfl) ?_
                                                  refine Eq.trans (jr_s (pc2 := 20) (lv2 := [(0, .ref 20), (1, .int 17), (2, .int a2)]) (st2 := [.int 6, .int a2]) jF_93_18 rfl rfl) ?_
                                                  refine Eq.trans (jr_ic1 jF_93_20 (jk_ge_ge (show (6 : Int32).toInt ≤ (a2 : Int32).toInt by rw [show (6 : Int32).toInt = 6 from by decide]; omega))) ?_
                                                  refine Eq.trans (jr_s (pc2 := 33) (lv2 := [(0, .ref 20), (1, .int 17), (2, .int a2)]) (st2 := [.int (-1)]) jF_93_32 rfl rfl) ?_
                                                  exact jr_ri jF_93_33 rfl
                                                exact jr_ri jF_92_9 rfl
                                              · refine Eq.trans (jr_s (pc2 := 1) (lv2 := [(0, .ref 117), (1, .int 17), (2, .int a2)]) (st2 := [.ref 117]) jF_266_0 rfl rfl) ?_
                                                refine Eq.trans (jr_s (pc2 := 2) (lv2 := [(0, .ref 117), (1, .int 17), (2, .int a2)]) (st2 := [.int 17, .ref 117]) jF_266_1 rfl rfl) ?_
                                                refine Eq.trans (jr_cV (a := 117) (as := [.int 17]) (rest := []) (v := some (.long 0)) (hp2 := jh2) (fr2 := 499) (lo2 := 19979) jF_266_2 (by decide +kernel) rfl (show j_cnd 500 20000 499 19979 2 _ _ = true from rfl) ?_) ?_
                                                · refine Eq.trans (jr_s (pc2 := 1) (lv2 := [(0, .ref 117), (1, .int 17)]) (st2 := [.int 17]) jF_267_0 rfl rfl) ?_
                                                  refine Eq.trans (jr_s (pc2 := 2) (lv2 := [(0, .ref 117), (1, .int 17)]) (st2 := [.long 17]) jF_267_1 rfl rfl) ?_
                                                  refine Eq.trans (jr_s (pc2 := 3) (lv2 := [(0, .ref 117), (1, .int 17)]) (st2 := [.long 0, .long 17]) jF_267_2 rfl rfl) ?_
                                                  refine Eq.trans (jr_s (pc2 := 6) (lv2 := [(0, .ref 117), (1, .int 17)]) (st2 := [.long 17, .long 0, .long 17]) jF_267_3 rfl rfl) ?_
                                                  refine Eq.trans (jr_cS (as := [.long 17, .long 0, .long 17]) (rest := []) (v := some (.int 1)) (hp2 := jh2) (fr2 := 498) (lo2 := 19954) jF_267_6 rfl (show j_cnd 499 19979 498 19954 6 _ _ = true from rfl) ?_) ?_
                                                  · refine Eq.trans (jr_s (pc2 := 1) (lv2 := [(0, .long 17), (2, .long 0), (4, .long 17)]) (st2 := [.long 17]) jF_232_0 rfl rfl) ?_
                                                    refine Eq.trans (jr_s (pc2 := 2) (lv2 := [(0, .long 17), (2, .long 0), (4, .long 17)]) (st2 := [.long 0, .long 17]) jF_232_1 rfl rfl) ?_
                                                    refine Eq.trans (jr_s (pc2 := 3) (lv2 := [(0, .long 17), (2, .long 0), (4, .long 17)]) (st2 := [.int 1]) jF_232_2 rfl rfl) ?_
                                                    refine Eq.trans (jr_if0 jF_232_3 (by decide +kernel)) ?_
                                                    refine Eq.trans (jr_s (pc2 := 7) (lv2 := [(0, .long 17), (2, .long 0), (4, .long 17)]) (st2 := [.long 17]) jF_232_6 rfl rfl) ?_
                                                    refine Eq.trans (jr_s (pc2 := 9) (lv2 := [(0, .long 17), (2, .long 0), (4, .long 17)]) (st2 := [.long 17, .long 17]) jF_232_7 rfl rfl) ?_
                                                    refine Eq.trans (jr_s (pc2 := 10) (lv2 := [(0, .long 17), (2, .long 0), (4, .long 17)]) (st2 := [.int 0]) jF_232_9 rfl rfl) ?_
                                                    refine Eq.trans (jr_if0 jF_232_10 (by decide +kernel)) ?_
                                                    refine Eq.trans (jr_s (pc2 := 14) (lv2 := [(0, .long 17), (2, .long 0), (4, .long 17)]) (st2 := [.int 1]) jF_232_13 rfl rfl) ?_
                                                    refine Eq.trans (jr_s (pc2 := 18) (lv2 := [(0, .long 17), (2, .long 0), (4, .long 17)]) (st2 := [.int 1]) jF_232_14 rfl rfl) ?_
                                                    exact jr_ri jF_232_18 rfl
                                                  refine Eq.trans (jr_if0 jF_267_9 (by decide +kernel)) ?_
                                                  refine Eq.trans (jr_s (pc2 := 13) (lv2 := [(0, .ref 117), (1, .int 17)]) (st2 := [.ref 117]) jF_267_12 rfl rfl) ?_
                                                  refine Eq.trans (jr_gf (v := .ref 138) jF_267_13 (by decide +kernel)) ?_
                                                  refine Eq.trans (jr_s (pc2 := 18) (lv2 := [(0, .ref 117), (1, .int 17)]) (st2 := [.int 18, .ref 138]) jF_267_16 rfl rfl) ?_
                                                  refine Eq.trans (jr_s (pc2 := 19) (lv2 := [(0, .ref 117), (1, .int 17)]) (st2 := [.int 17, .int 18, .ref 138]) jF_267_18 rfl rfl) ?_
                                                  refine Eq.trans (jr_s (pc2 := 20) (lv2 := [(0, .ref 117), (1, .int 17)]) (st2 := [.int 35, .ref 138]) jF_267_19 rfl rfl) ?_
                                                  refine Eq.trans (jr_ldl (v := .long 0) jF_267_20 (by decide +kernel)) ?_
                                                  exact jr_rl jF_267_21
                                                refine Eq.trans (jr_s (pc2 := 6) (lv2 := [(3, .long 0), (0, .ref 117), (1, .int 17), (2, .int a2)]) (st2 := []) jF_266_5 rfl rfl) ?_
                                                refine Eq.trans (jr_s (pc2 := 7) (lv2 := [(3, .long 0), (0, .ref 117), (1, .int 17), (2, .int a2)]) (st2 := [.long 0]) jF_266_6 rfl rfl) ?_
                                                refine Eq.trans (jr_s (pc2 := 8) (lv2 := [(3, .long 0), (0, .ref 117), (1, .int 17), (2, .int a2)]) (st2 := [.long 0, .long 0]) jF_266_7 rfl rfl) ?_
                                                refine Eq.trans (jr_s (pc2 := 9) (lv2 := [(3, .long 0), (0, .ref 117), (1, .int 17), (2, .int a2)]) (st2 := [.int 0]) jF_266_8 rfl rfl) ?_
                                                refine Eq.trans (jr_if1 jF_266_9 (by decide +kernel)) ?_
                                                refine Eq.trans (jr_s (pc2 := 25) (lv2 := [(3, .long 0), (0, .ref 117), (1, .int 17), (2, .int a2)]) (st2 := [.int (-1)]) jF_266_24 rfl rfl) ?_
                                                exact jr_ri jF_266_25 rfl
          · rcases j_ilt a1.toInt 19 with h_a1_19 | h_a1_19
            · obtain rfl : a1 = 18 := Int32.toInt_inj.mp (by rw [show (18 : Int32).toInt = 18 from by decide]; omega)
              refine ⟨60000, 60000, (-1), jh2, jh2, ?_, ?_, by decide +kernel⟩
              · refine Eq.trans (jr_s (pc2 := 1) (lv2 := [(0, .ref 9), (1, .int 18), (2, .int a2)]) (st2 := [.ref 9]) jF_92_0 rfl rfl) ?_
                refine Eq.trans (jr_gf (v := .ref 20) jF_92_1 (by decide +kernel)) ?_
                refine Eq.trans (jr_s (pc2 := 5) (lv2 := [(0, .ref 9), (1, .int 18), (2, .int a2)]) (st2 := [.int 18, .ref 20]) jF_92_4 rfl rfl) ?_
                refine Eq.trans (jr_s (pc2 := 6) (lv2 := [(0, .ref 9), (1, .int 18), (2, .int a2)]) (st2 := [.int a2, .int 18, .ref 20]) jF_92_5 rfl rfl) ?_
                refine Eq.trans (jr_cV (a := 20) (as := [.int 18, .int a2]) (rest := []) (v := some (.int (-1))) (hp2 := jh2) (fr2 := 499) (lo2 := 19978) jF_92_6 (by decide +kernel) rfl (show j_cnd 500 20000 499 19978 3 _ _ = true from rfl) ?_) ?_
                · refine Eq.trans (jr_s (pc2 := 1) (lv2 := [(0, .ref 20), (1, .int 18), (2, .int a2)]) (st2 := [.int 18]) jF_93_0 rfl rfl) ?_
                  refine Eq.trans (jr_if0 jF_93_1 (by decide +kernel)) ?_
                  refine Eq.trans (jr_s (pc2 := 5) (lv2 := [(0, .ref 20), (1, .int 18), (2, .int a2)]) (st2 := [.int 18]) jF_93_4 rfl rfl) ?_
                  refine Eq.trans (jr_s (pc2 := 6) (lv2 := [(0, .ref 20), (1, .int 18), (2, .int a2)]) (st2 := [.ref 20, .int 18]) jF_93_5 rfl rfl) ?_
                  refine Eq.trans (jr_gf (v := .ref 21) jF_93_6 (by decide +kernel)) ?_
                  refine Eq.trans (jr_al (v := 25) jF_93_9 (by decide +kernel)) ?_
                  refine Eq.trans (jr_ic0 jF_93_10 (by decide +kernel)) ?_
                  refine Eq.trans (jr_s (pc2 := 14) (lv2 := [(0, .ref 20), (1, .int 18), (2, .int a2)]) (st2 := [.int a2]) jF_93_13 rfl rfl) ?_
                  refine Eq.trans (jr_if0 jF_93_14 (jk_lt_ge (show (0 : Int32).toInt ≤ (a2 : Int32).toInt by rw [show (0 : Int32).toInt = 0 from by decide]; omega))) ?_
                  refine Eq.trans (jr_s (pc2 := 18) (lv2 := [(0, .ref 20), (1, .int 18), (2, .int a2)]) (st2 := [.int a2]) jF_93_17 rfl rfl) ?_
                  refine Eq.trans (jr_s (pc2 := 20) (lv2 := [(0, .ref 20), (1, .int 18), (2, .int a2)]) (st2 := [.int 6, .int a2]) jF_93_18 rfl rfl) ?_
                  refine Eq.trans (jr_ic1 jF_93_20 (jk_ge_ge (show (6 : Int32).toInt ≤ (a2 : Int32).toInt by rw [show (6 : Int32).toInt = 6 from by decide]; omega))) ?_
                  refine Eq.trans (jr_s (pc2 := 33) (lv2 := [(0, .ref 20), (1, .int 18), (2, .int a2)]) (st2 := [.int (-1)]) jF_93_32 rfl rfl) ?_
                  exact jr_ri jF_93_33 rfl
                exact jr_ri jF_92_9 rfl
              · refine Eq.trans (jr_s (pc2 := 1) (lv2 := [(0, .ref 117), (1, .int 18), (2, .int a2)]) (st2 := [.ref 117]) jF_266_0 rfl rfl) ?_
                refine Eq.trans (jr_s (pc2 := 2) (lv2 := [(0, .ref 117), (1, .int 18), (2, .int a2)]) (st2 := [.int 18, .ref 117]) jF_266_1 rfl rfl) ?_
                refine Eq.trans (jr_cV (a := 117) (as := [.int 18]) (rest := []) (v := some (.long 0)) (hp2 := jh2) (fr2 := 499) (lo2 := 19979) jF_266_2 (by decide +kernel) rfl (show j_cnd 500 20000 499 19979 2 _ _ = true from rfl) ?_) ?_
                · refine Eq.trans (jr_s (pc2 := 1) (lv2 := [(0, .ref 117), (1, .int 18)]) (st2 := [.int 18]) jF_267_0 rfl rfl) ?_
                  refine Eq.trans (jr_s (pc2 := 2) (lv2 := [(0, .ref 117), (1, .int 18)]) (st2 := [.long 18]) jF_267_1 rfl rfl) ?_
                  refine Eq.trans (jr_s (pc2 := 3) (lv2 := [(0, .ref 117), (1, .int 18)]) (st2 := [.long 0, .long 18]) jF_267_2 rfl rfl) ?_
                  refine Eq.trans (jr_s (pc2 := 6) (lv2 := [(0, .ref 117), (1, .int 18)]) (st2 := [.long 17, .long 0, .long 18]) jF_267_3 rfl rfl) ?_
                  refine Eq.trans (jr_cS (as := [.long 18, .long 0, .long 17]) (rest := []) (v := some (.int 0)) (hp2 := jh2) (fr2 := 498) (lo2 := 19954) jF_267_6 rfl (show j_cnd 499 19979 498 19954 6 _ _ = true from rfl) ?_) ?_
                  · refine Eq.trans (jr_s (pc2 := 1) (lv2 := [(0, .long 18), (2, .long 0), (4, .long 17)]) (st2 := [.long 18]) jF_232_0 rfl rfl) ?_
                    refine Eq.trans (jr_s (pc2 := 2) (lv2 := [(0, .long 18), (2, .long 0), (4, .long 17)]) (st2 := [.long 0, .long 18]) jF_232_1 rfl rfl) ?_
                    refine Eq.trans (jr_s (pc2 := 3) (lv2 := [(0, .long 18), (2, .long 0), (4, .long 17)]) (st2 := [.int 1]) jF_232_2 rfl rfl) ?_
                    refine Eq.trans (jr_if0 jF_232_3 (by decide +kernel)) ?_
                    refine Eq.trans (jr_s (pc2 := 7) (lv2 := [(0, .long 18), (2, .long 0), (4, .long 17)]) (st2 := [.long 18]) jF_232_6 rfl rfl) ?_
                    refine Eq.trans (jr_s (pc2 := 9) (lv2 := [(0, .long 18), (2, .long 0), (4, .long 17)]) (st2 := [.long 17, .long 18]) jF_232_7 rfl rfl) ?_
                    refine Eq.trans (jr_s (pc2 := 10) (lv2 := [(0, .long 18), (2, .long 0), (4, .long 17)]) (st2 := [.int 1]) jF_232_9 rfl rfl) ?_
                    refine Eq.trans (jr_if1 jF_232_10 (by decide +kernel)) ?_
                    refine Eq.trans (jr_s (pc2 := 18) (lv2 := [(0, .long 18), (2, .long 0), (4, .long 17)]) (st2 := [.int 0]) jF_232_17 rfl rfl) ?_
                    exact jr_ri jF_232_18 rfl
                  refine Eq.trans (jr_if1 jF_267_9 (by decide +kernel)) ?_
                  refine Eq.trans (jr_s (pc2 := 23) (lv2 := [(0, .ref 117), (1, .int 18)]) (st2 := [.int 18]) jF_267_22 rfl rfl) ?_
                  refine Eq.trans (jr_s (pc2 := 25) (lv2 := [(0, .ref 117), (1, .int 18)]) (st2 := [.int 20, .int 18]) jF_267_23 rfl rfl) ?_
                  refine Eq.trans (jr_s (pc2 := 26) (lv2 := [(0, .ref 117), (1, .int 18)]) (st2 := [.int (-2)]) jF_267_25 rfl rfl) ?_
                  refine Eq.trans (jr_s (pc2 := 27) (lv2 := [(0, .ref 117), (1, .int 18)]) (st2 := [.long (-2)]) jF_267_26 rfl rfl) ?_
                  refine Eq.trans (jr_s (pc2 := 28) (lv2 := [(0, .ref 117), (1, .int 18)]) (st2 := [.long 0, .long (-2)]) jF_267_27 rfl rfl) ?_
                  refine Eq.trans (jr_s (pc2 := 29) (lv2 := [(0, .ref 117), (1, .int 18)]) (st2 := [.ref 117, .long 0, .long (-2)]) jF_267_28 rfl rfl) ?_
                  refine Eq.trans (jr_gf (v := .int 0) jF_267_29 (by decide +kernel)) ?_
                  refine Eq.trans (jr_s (pc2 := 33) (lv2 := [(0, .ref 117), (1, .int 18)]) (st2 := [.int 1, .int 0, .long 0, .long (-2)]) jF_267_32 rfl rfl) ?_
                  refine Eq.trans (jr_s (pc2 := 34) (lv2 := [(0, .ref 117), (1, .int 18)]) (st2 := [.int (-1), .long 0, .long (-2)]) jF_267_33 rfl rfl) ?_
                  refine Eq.trans (jr_s (pc2 := 35) (lv2 := [(0, .ref 117), (1, .int 18)]) (st2 := [.long (-1), .long 0, .long (-2)]) jF_267_34 rfl rfl) ?_
                  refine Eq.trans (jr_cS (as := [.long (-2), .long 0, .long (-1)]) (rest := []) (v := some (.int 0)) (hp2 := jh2) (fr2 := 498) (lo2 := 19954) jF_267_35 rfl (show j_cnd 499 19979 498 19954 6 _ _ = true from rfl) ?_) ?_
                  · refine Eq.trans (jr_s (pc2 := 1) (lv2 := [(0, .long (-2)), (2, .long 0), (4, .long (-1))]) (st2 := [.long (-2)]) jF_232_0 rfl rfl) ?_
                    refine Eq.trans (jr_s (pc2 := 2) (lv2 := [(0, .long (-2)), (2, .long 0), (4, .long (-1))]) (st2 := [.long 0, .long (-2)]) jF_232_1 rfl rfl) ?_
                    refine Eq.trans (jr_s (pc2 := 3) (lv2 := [(0, .long (-2)), (2, .long 0), (4, .long (-1))]) (st2 := [.int (-1)]) jF_232_2 rfl rfl) ?_
                    refine Eq.trans (jr_if1 jF_232_3 (by decide +kernel)) ?_
                    refine Eq.trans (jr_s (pc2 := 18) (lv2 := [(0, .long (-2)), (2, .long 0), (4, .long (-1))]) (st2 := [.int 0]) jF_232_17 rfl rfl) ?_
                    exact jr_ri jF_232_18 rfl
                  refine Eq.trans (jr_if1 jF_267_38 (by decide +kernel)) ?_
                  refine Eq.trans (jr_s (pc2 := 56) (lv2 := [(0, .ref 117), (1, .int 18)]) (st2 := [.long 0]) jF_267_55 rfl rfl) ?_
                  exact jr_rl jF_267_56
                refine Eq.trans (jr_s (pc2 := 6) (lv2 := [(3, .long 0), (0, .ref 117), (1, .int 18), (2, .int a2)]) (st2 := []) jF_266_5 rfl rfl) ?_
                refine Eq.trans (jr_s (pc2 := 7) (lv2 := [(3, .long 0), (0, .ref 117), (1, .int 18), (2, .int a2)]) (st2 := [.long 0]) jF_266_6 rfl rfl) ?_
                refine Eq.trans (jr_s (pc2 := 8) (lv2 := [(3, .long 0), (0, .ref 117), (1, .int 18), (2, .int a2)]) (st2 := [.long 0, .long 0]) jF_266_7 rfl rfl) ?_
                refine Eq.trans (jr_s (pc2 := 9) (lv2 := [(3, .long 0), (0, .ref 117), (1, .int 18), (2, .int a2)]) (st2 := [.int 0]) jF_266_8 rfl rfl) ?_
                refine Eq.trans (jr_if1 jF_266_9 (by decide +kernel)) ?_
                refine Eq.trans (jr_s (pc2 := 25) (lv2 := [(3, .long 0), (0, .ref 117), (1, .int 18), (2, .int a2)]) (st2 := [.int (-1)]) jF_266_24 rfl rfl) ?_
                exact jr_ri jF_266_25 rfl
            · rcases j_ilt a1.toInt 20 with h_a1_20 | h_a1_20
              · obtain rfl : a1 = 19 := Int32.toInt_inj.mp (by rw [show (19 : Int32).toInt = 19 from by decide]; omega)
                refine ⟨60000, 60000, (-1), jh2, jh2, ?_, ?_, by decide +kernel⟩
                · refine Eq.trans (jr_s (pc2 := 1) (lv2 := [(0, .ref 9), (1, .int 19), (2, .int a2)]) (st2 := [.ref 9]) jF_92_0 rfl rfl) ?_
                  refine Eq.trans (jr_gf (v := .ref 20) jF_92_1 (by decide +kernel)) ?_
                  refine Eq.trans (jr_s (pc2 := 5) (lv2 := [(0, .ref 9), (1, .int 19), (2, .int a2)]) (st2 := [.int 19, .ref 20]) jF_92_4 rfl rfl) ?_
                  refine Eq.trans (jr_s (pc2 := 6) (lv2 := [(0, .ref 9), (1, .int 19), (2, .int a2)]) (st2 := [.int a2, .int 19, .ref 20]) jF_92_5 rfl rfl) ?_
                  refine Eq.trans (jr_cV (a := 20) (as := [.int 19, .int a2]) (rest := []) (v := some (.int (-1))) (hp2 := jh2) (fr2 := 499) (lo2 := 19978) jF_92_6 (by decide +kernel) rfl (show j_cnd 500 20000 499 19978 3 _ _ = true from rfl) ?_) ?_
                  · refine Eq.trans (jr_s (pc2 := 1) (lv2 := [(0, .ref 20), (1, .int 19), (2, .int a2)]) (st2 := [.int 19]) jF_93_0 rfl rfl) ?_
                    refine Eq.trans (jr_if0 jF_93_1 (by decide +kernel)) ?_
                    refine Eq.trans (jr_s (pc2 := 5) (lv2 := [(0, .ref 20), (1, .int 19), (2, .int a2)]) (st2 := [.int 19]) jF_93_4 rfl rfl) ?_
                    refine Eq.trans (jr_s (pc2 := 6) (lv2 := [(0, .ref 20), (1, .int 19), (2, .int a2)]) (st2 := [.ref 20, .int 19]) jF_93_5 rfl rfl) ?_
                    refine Eq.trans (jr_gf (v := .ref 21) jF_93_6 (by decide +kernel)) ?_
                    refine Eq.trans (jr_al (v := 25) jF_93_9 (by decide +kernel)) ?_
                    refine Eq.trans (jr_ic0 jF_93_10 (by decide +kernel)) ?_
                    refine Eq.trans (jr_s (pc2 := 14) (lv2 := [(0, .ref 20), (1, .int 19), (2, .int a2)]) (st2 := [.int a2]) jF_93_13 rfl rfl) ?_
                    refine Eq.trans (jr_if0 jF_93_14 (jk_lt_ge (show (0 : Int32).toInt ≤ (a2 : Int32).toInt by rw [show (0 : Int32).toInt = 0 from by decide]; omega))) ?_
                    refine Eq.trans (jr_s (pc2 := 18) (lv2 := [(0, .ref 20), (1, .int 19), (2, .int a2)]) (st2 := [.int a2]) jF_93_17 rfl rfl) ?_
                    refine Eq.trans (jr_s (pc2 := 20) (lv2 := [(0, .ref 20), (1, .int 19), (2, .int a2)]) (st2 := [.int 6, .int a2]) jF_93_18 rfl rfl) ?_
                    refine Eq.trans (jr_ic1 jF_93_20 (jk_ge_ge (show (6 : Int32).toInt ≤ (a2 : Int32).toInt by rw [show (6 : Int32).toInt = 6 from by decide]; omega))) ?_
                    refine Eq.trans (jr_s (pc2 := 33) (lv2 := [(0, .ref 20), (1, .int 19), (2, .int a2)]) (st2 := [.int (-1)]) jF_93_32 rfl rfl) ?_
                    exact jr_ri jF_93_33 rfl
                  exact jr_ri jF_92_9 rfl
                · refine Eq.trans (jr_s (pc2 := 1) (lv2 := [(0, .ref 117), (1, .int 19), (2, .int a2)]) (st2 := [.ref 117]) jF_266_0 rfl rfl) ?_
                  refine Eq.trans (jr_s (pc2 := 2) (lv2 := [(0, .ref 117), (1, .int 19), (2, .int a2)]) (st2 := [.int 19, .ref 117]) jF_266_1 rfl rfl) ?_
                  refine Eq.trans (jr_cV (a := 117) (as := [.int 19]) (rest := []) (v := some (.long 0)) (hp2 := jh2) (fr2 := 499) (lo2 := 19979) jF_266_2 (by decide +kernel) rfl (show j_cnd 500 20000 499 19979 2 _ _ = true from rfl) ?_) ?_
                  · refine Eq.trans (jr_s (pc2 := 1) (lv2 := [(0, .ref 117), (1, .int 19)]) (st2 := [.int 19]) jF_267_0 rfl rfl) ?_
                    refine Eq.trans (jr_s (pc2 := 2) (lv2 := [(0, .ref 117), (1, .int 19)]) (st2 := [.long 19]) jF_267_1 rfl rfl) ?_
                    refine Eq.trans (jr_s (pc2 := 3) (lv2 := [(0, .ref 117), (1, .int 19)]) (st2 := [.long 0, .long 19]) jF_267_2 rfl rfl) ?_
                    refine Eq.trans (jr_s (pc2 := 6) (lv2 := [(0, .ref 117), (1, .int 19)]) (st2 := [.long 17, .long 0, .long 19]) jF_267_3 rfl rfl) ?_
                    refine Eq.trans (jr_cS (as := [.long 19, .long 0, .long 17]) (rest := []) (v := some (.int 0)) (hp2 := jh2) (fr2 := 498) (lo2 := 19954) jF_267_6 rfl (show j_cnd 499 19979 498 19954 6 _ _ = true from rfl) ?_) ?_
                    · refine Eq.trans (jr_s (pc2 := 1) (lv2 := [(0, .long 19), (2, .long 0), (4, .long 17)]) (st2 := [.long 19]) jF_232_0 rfl rfl) ?_
                      refine Eq.trans (jr_s (pc2 := 2) (lv2 := [(0, .long 19), (2, .long 0), (4, .long 17)]) (st2 := [.long 0, .long 19]) jF_232_1 rfl rfl) ?_
                      refine Eq.trans (jr_s (pc2 := 3) (lv2 := [(0, .long 19), (2, .long 0), (4, .long 17)]) (st2 := [.int 1]) jF_232_2 rfl rfl) ?_
                      refine Eq.trans (jr_if0 jF_232_3 (by decide +kernel)) ?_
                      refine Eq.trans (jr_s (pc2 := 7) (lv2 := [(0, .long 19), (2, .long 0), (4, .long 17)]) (st2 := [.long 19]) jF_232_6 rfl rfl) ?_
                      refine Eq.trans (jr_s (pc2 := 9) (lv2 := [(0, .long 19), (2, .long 0), (4, .long 17)]) (st2 := [.long 17, .long 19]) jF_232_7 rfl rfl) ?_
                      refine Eq.trans (jr_s (pc2 := 10) (lv2 := [(0, .long 19), (2, .long 0), (4, .long 17)]) (st2 := [.int 1]) jF_232_9 rfl rfl) ?_
                      refine Eq.trans (jr_if1 jF_232_10 (by decide +kernel)) ?_
                      refine Eq.trans (jr_s (pc2 := 18) (lv2 := [(0, .long 19), (2, .long 0), (4, .long 17)]) (st2 := [.int 0]) jF_232_17 rfl rfl) ?_
                      exact jr_ri jF_232_18 rfl
                    refine Eq.trans (jr_if1 jF_267_9 (by decide +kernel)) ?_
                    refine Eq.trans (jr_s (pc2 := 23) (lv2 := [(0, .ref 117), (1, .int 19)]) (st2 := [.int 19]) jF_267_22 rfl rfl) ?_
                    refine Eq.trans (jr_s (pc2 := 25) (lv2 := [(0, .ref 117), (1, .int 19)]) (st2 := [.int 20, .int 19]) jF_267_23 rfl rfl) ?_
                    refine Eq.trans (jr_s (pc2 := 26) (lv2 := [(0, .ref 117), (1, .int 19)]) (st2 := [.int (-1)]) jF_267_25 rfl rfl) ?_
                    refine Eq.trans (jr_s (pc2 := 27) (lv2 := [(0, .ref 117), (1, .int 19)]) (st2 := [.long (-1)]) jF_267_26 rfl rfl) ?_
                    refine Eq.trans (jr_s (pc2 := 28) (lv2 := [(0, .ref 117), (1, .int 19)]) (st2 := [.long 0, .long (-1)]) jF_267_27 rfl rfl) ?_
                    refine Eq.trans (jr_s (pc2 := 29) (lv2 := [(0, .ref 117), (1, .int 19)]) (st2 := [.ref 117, .long 0, .long (-1)]) jF_267_28 rfl rfl) ?_
                    refine Eq.trans (jr_gf (v := .int 0) jF_267_29 (by decide +kernel)) ?_
                    refine Eq.trans (jr_s (pc2 := 33) (lv2 := [(0, .ref 117), (1, .int 19)]) (st2 := [.int 1, .int 0, .long 0, .long (-1)]) jF_267_32 rfl rfl) ?_
                    refine Eq.trans (jr_s (pc2 := 34) (lv2 := [(0, .ref 117), (1, .int 19)]) (st2 := [.int (-1), .long 0, .long (-1)]) jF_267_33 rfl rfl) ?_
                    refine Eq.trans (jr_s (pc2 := 35) (lv2 := [(0, .ref 117), (1, .int 19)]) (st2 := [.long (-1), .long 0, .long (-1)]) jF_267_34 rfl rfl) ?_
                    refine Eq.trans (jr_cS (as := [.long (-1), .long 0, .long (-1)]) (rest := []) (v := some (.int 0)) (hp2 := jh2) (fr2 := 498) (lo2 := 19954) jF_267_35 rfl (show j_cnd 499 19979 498 19954 6 _ _ = true from rfl) ?_) ?_
                    · refine Eq.trans (jr_s (pc2 := 1) (lv2 := [(0, .long (-1)), (2, .long 0), (4, .long (-1))]) (st2 := [.long (-1)]) jF_232_0 rfl rfl) ?_
                      refine Eq.trans (jr_s (pc2 := 2) (lv2 := [(0, .long (-1)), (2, .long 0), (4, .long (-1))]) (st2 := [.long 0, .long (-1)]) jF_232_1 rfl rfl) ?_
                      refine Eq.trans (jr_s (pc2 := 3) (lv2 := [(0, .long (-1)), (2, .long 0), (4, .long (-1))]) (st2 := [.int (-1)]) jF_232_2 rfl rfl) ?_
                      refine Eq.trans (jr_if1 jF_232_3 (by decide +kernel)) ?_
                      refine Eq.trans (jr_s (pc2 := 18) (lv2 := [(0, .long (-1)), (2, .long 0), (4, .long (-1))]) (st2 := [.int 0]) jF_232_17 rfl rfl) ?_
                      exact jr_ri jF_232_18 rfl
                    refine Eq.trans (jr_if1 jF_267_38 (by decide +kernel)) ?_
                    refine Eq.trans (jr_s (pc2 := 56) (lv2 := [(0, .ref 117), (1, .int 19)]) (st2 := [.long 0]) jF_267_55 rfl rfl) ?_
                    exact jr_rl jF_267_56
                  refine Eq.trans (jr_s (pc2 := 6) (lv2 := [(3, .long 0), (0, .ref 117), (1, .int 19), (2, .int a2)]) (st2 := []) jF_266_5 rfl rfl) ?_
                  refine Eq.trans (jr_s (pc2 := 7) (lv2 := [(3, .long 0), (0, .ref 117), (1, .int 19), (2, .int a2)]) (st2 := [.long 0]) jF_266_6 rfl rfl) ?_
                  refine Eq.trans (jr_s (pc2 := 8) (lv2 := [(3, .long 0), (0, .ref 117), (1, .int 19), (2, .int a2)]) (st2 := [.long 0, .long 0]) jF_266_7 rfl rfl) ?_
                  refine Eq.trans (jr_s (pc2 := 9) (lv2 := [(3, .long 0), (0, .ref 117), (1, .int 19), (2, .int a2)]) (st2 := [.int 0]) jF_266_8 rfl rfl) ?_
                  refine Eq.trans (jr_if1 jF_266_9 (by decide +kernel)) ?_
                  refine Eq.trans (jr_s (pc2 := 25) (lv2 := [(3, .long 0), (0, .ref 117), (1, .int 19), (2, .int a2)]) (st2 := [.int (-1)]) jF_266_24 rfl rfl) ?_
                  exact jr_ri jF_266_25 rfl
              · rcases j_ilt a1.toInt 21 with h_a1_21 | h_a1_21
                · obtain rfl : a1 = 20 := Int32.toInt_inj.mp (by rw [show (20 : Int32).toInt = 20 from by decide]; omega)
                  refine ⟨60000, 60000, (-1), jh2, jh2, ?_, ?_, by decide +kernel⟩
                  · refine Eq.trans (jr_s (pc2 := 1) (lv2 := [(0, .ref 9), (1, .int 20), (2, .int a2)]) (st2 := [.ref 9]) jF_92_0 rfl rfl) ?_
                    refine Eq.trans (jr_gf (v := .ref 20) jF_92_1 (by decide +kernel)) ?_
                    refine Eq.trans (jr_s (pc2 := 5) (lv2 := [(0, .ref 9), (1, .int 20), (2, .int a2)]) (st2 := [.int 20, .ref 20]) jF_92_4 rfl rfl) ?_
                    refine Eq.trans (jr_s (pc2 := 6) (lv2 := [(0, .ref 9), (1, .int 20), (2, .int a2)]) (st2 := [.int a2, .int 20, .ref 20]) jF_92_5 rfl rfl) ?_
                    refine Eq.trans (jr_cV (a := 20) (as := [.int 20, .int a2]) (rest := []) (v := some (.int (-1))) (hp2 := jh2) (fr2 := 499) (lo2 := 19978) jF_92_6 (by decide +kernel) rfl (show j_cnd 500 20000 499 19978 3 _ _ = true from rfl) ?_) ?_
                    · refine Eq.trans (jr_s (pc2 := 1) (lv2 := [(0, .ref 20), (1, .int 20), (2, .int a2)]) (st2 := [.int 20]) jF_93_0 rfl rfl) ?_
                      refine Eq.trans (jr_if0 jF_93_1 (by decide +kernel)) ?_
                      refine Eq.trans (jr_s (pc2 := 5) (lv2 := [(0, .ref 20), (1, .int 20), (2, .int a2)]) (st2 := [.int 20]) jF_93_4 rfl rfl) ?_
                      refine Eq.trans (jr_s (pc2 := 6) (lv2 := [(0, .ref 20), (1, .int 20), (2, .int a2)]) (st2 := [.ref 20, .int 20]) jF_93_5 rfl rfl) ?_
                      refine Eq.trans (jr_gf (v := .ref 21) jF_93_6 (by decide +kernel)) ?_
                      refine Eq.trans (jr_al (v := 25) jF_93_9 (by decide +kernel)) ?_
                      refine Eq.trans (jr_ic0 jF_93_10 (by decide +kernel)) ?_
                      refine Eq.trans (jr_s (pc2 := 14) (lv2 := [(0, .ref 20), (1, .int 20), (2, .int a2)]) (st2 := [.int a2]) jF_93_13 rfl rfl) ?_
                      refine Eq.trans (jr_if0 jF_93_14 (jk_lt_ge (show (0 : Int32).toInt ≤ (a2 : Int32).toInt by rw [show (0 : Int32).toInt = 0 from by decide]; omega))) ?_
                      refine Eq.trans (jr_s (pc2 := 18) (lv2 := [(0, .ref 20), (1, .int 20), (2, .int a2)]) (st2 := [.int a2]) jF_93_17 rfl rfl) ?_
                      refine Eq.trans (jr_s (pc2 := 20) (lv2 := [(0, .ref 20), (1, .int 20), (2, .int a2)]) (st2 := [.int 6, .int a2]) jF_93_18 rfl rfl) ?_
                      refine Eq.trans (jr_ic1 jF_93_20 (jk_ge_ge (show (6 : Int32).toInt ≤ (a2 : Int32).toInt by rw [show (6 : Int32).toInt = 6 from by decide]; omega))) ?_
                      refine Eq.trans (jr_s (pc2 := 33) (lv2 := [(0, .ref 20), (1, .int 20), (2, .int a2)]) (st2 := [.int (-1)]) jF_93_32 rfl rfl) ?_
                      exact jr_ri jF_93_33 rfl
                    exact jr_ri jF_92_9 rfl
                  · refine Eq.trans (jr_s (pc2 := 1) (lv2 := [(0, .ref 117), (1, .int 20), (2, .int a2)]) (st2 := [.ref 117]) jF_266_0 rfl rfl) ?_
                    refine Eq.trans (jr_s (pc2 := 2) (lv2 := [(0, .ref 117), (1, .int 20), (2, .int a2)]) (st2 := [.int 20, .ref 117]) jF_266_1 rfl rfl) ?_
                    refine Eq.trans (jr_cV (a := 117) (as := [.int 20]) (rest := []) (v := some (.long 0)) (hp2 := jh2) (fr2 := 499) (lo2 := 19979) jF_266_2 (by decide +kernel) rfl (show j_cnd 500 20000 499 19979 2 _ _ = true from rfl) ?_) ?_
                    · refine Eq.trans (jr_s (pc2 := 1) (lv2 := [(0, .ref 117), (1, .int 20)]) (st2 := [.int 20]) jF_267_0 rfl rfl) ?_
                      refine Eq.trans (jr_s (pc2 := 2) (lv2 := [(0, .ref 117), (1, .int 20)]) (st2 := [.long 20]) jF_267_1 rfl rfl) ?_
                      refine Eq.trans (jr_s (pc2 := 3) (lv2 := [(0, .ref 117), (1, .int 20)]) (st2 := [.long 0, .long 20]) jF_267_2 rfl rfl) ?_
                      refine Eq.trans (jr_s (pc2 := 6) (lv2 := [(0, .ref 117), (1, .int 20)]) (st2 := [.long 17, .long 0, .long 20]) jF_267_3 rfl rfl) ?_
                      refine Eq.trans (jr_cS (as := [.long 20, .long 0, .long 17]) (rest := []) (v := some (.int 0)) (hp2 := jh2) (fr2 := 498) (lo2 := 19954) jF_267_6 rfl (show j_cnd 499 19979 498 19954 6 _ _ = true from rfl) ?_) ?_
                      · refine Eq.trans (jr_s (pc2 := 1) (lv2 := [(0, .long 20), (2, .long 0), (4, .long 17)]) (st2 := [.long 20]) jF_232_0 rfl rfl) ?_
                        refine Eq.trans (jr_s (pc2 := 2) (lv2 := [(0, .long 20), (2, .long 0), (4, .long 17)]) (st2 := [.long 0, .long 20]) jF_232_1 rfl rfl) ?_
                        refine Eq.trans (jr_s (pc2 := 3) (lv2 := [(0, .long 20), (2, .long 0), (4, .long 17)]) (st2 := [.int 1]) jF_232_2 rfl rfl) ?_
                        refine Eq.trans (jr_if0 jF_232_3 (by decide +kernel)) ?_
                        refine Eq.trans (jr_s (pc2 := 7) (lv2 := [(0, .long 20), (2, .long 0), (4, .long 17)]) (st2 := [.long 20]) jF_232_6 rfl rfl) ?_
                        refine Eq.trans (jr_s (pc2 := 9) (lv2 := [(0, .long 20), (2, .long 0), (4, .long 17)]) (st2 := [.long 17, .long 20]) jF_232_7 rfl rfl) ?_
                        refine Eq.trans (jr_s (pc2 := 10) (lv2 := [(0, .long 20), (2, .long 0), (4, .long 17)]) (st2 := [.int 1]) jF_232_9 rfl rfl) ?_
                        refine Eq.trans (jr_if1 jF_232_10 (by decide +kernel)) ?_
                        refine Eq.trans (jr_s (pc2 := 18) (lv2 := [(0, .long 20), (2, .long 0), (4, .long 17)]) (st2 := [.int 0]) jF_232_17 rfl rfl) ?_
                        exact jr_ri jF_232_18 rfl
                      refine Eq.trans (jr_if1 jF_267_9 (by decide +kernel)) ?_
                      refine Eq.trans (jr_s (pc2 := 23) (lv2 := [(0, .ref 117), (1, .int 20)]) (st2 := [.int 20]) jF_267_22 rfl rfl) ?_
                      refine Eq.trans (jr_s (pc2 := 25) (lv2 := [(0, .ref 117), (1, .int 20)]) (st2 := [.int 20, .int 20]) jF_267_23 rfl rfl) ?_
                      refine Eq.trans (jr_s (pc2 := 26) (lv2 := [(0, .ref 117), (1, .int 20)]) (st2 := [.int 0]) jF_267_25 rfl rfl) ?_
                      refine Eq.trans (jr_s (pc2 := 27) (lv2 := [(0, .ref 117), (1, .int 20)]) (st2 := [.long 0]) jF_267_26 rfl rfl) ?_
                      refine Eq.trans (jr_s (pc2 := 28) (lv2 := [(0, .ref 117), (1, .int 20)]) (st2 := [.long 0, .long 0]) jF_267_27 rfl rfl) ?_
                      refine Eq.trans (jr_s (pc2 := 29) (lv2 := [(0, .ref 117), (1, .int 20)]) (st2 := [.ref 117, .long 0, .long 0]) jF_267_28 rfl rfl) ?_
                      refine Eq.trans (jr_gf (v := .int 0) jF_267_29 (by decide +kernel)) ?_
                      refine Eq.trans (jr_s (pc2 := 33) (lv2 := [(0, .ref 117), (1, .int 20)]) (st2 := [.int 1, .int 0, .long 0, .long 0]) jF_267_32 rfl rfl) ?_
                      refine Eq.trans (jr_s (pc2 := 34) (lv2 := [(0, .ref 117), (1, .int 20)]) (st2 := [.int (-1), .long 0, .long 0]) jF_267_33 rfl rfl) ?_
                      refine Eq.trans (jr_s (pc2 := 35) (lv2 := [(0, .ref 117), (1, .int 20)]) (st2 := [.long (-1), .long 0, .long 0]) jF_267_34 rfl rfl) ?_
                      refine Eq.trans (jr_cS (as := [.long 0, .long 0, .long (-1)]) (rest := []) (v := some (.int 0)) (hp2 := jh2) (fr2 := 498) (lo2 := 19954) jF_267_35 rfl (show j_cnd 499 19979 498 19954 6 _ _ = true from rfl) ?_) ?_
                      · refine Eq.trans (jr_s (pc2 := 1) (lv2 := [(0, .long 0), (2, .long 0), (4, .long (-1))]) (st2 := [.long 0]) jF_232_0 rfl rfl) ?_
                        refine Eq.trans (jr_s (pc2 := 2) (lv2 := [(0, .long 0), (2, .long 0), (4, .long (-1))]) (st2 := [.long 0, .long 0]) jF_232_1 rfl rfl) ?_
                        refine Eq.trans (jr_s (pc2 := 3) (lv2 := [(0, .long 0), (2, .long 0), (4, .long (-1))]) (st2 := [.int 0]) jF_232_2 rfl rfl) ?_
                        refine Eq.trans (jr_if0 jF_232_3 (by decide +kernel)) ?_
                        refine Eq.trans (jr_s (pc2 := 7) (lv2 := [(0, .long 0), (2, .long 0), (4, .long (-1))]) (st2 := [.long 0]) jF_232_6 rfl rfl) ?_
                        refine Eq.trans (jr_s (pc2 := 9) (lv2 := [(0, .long 0), (2, .long 0), (4, .long (-1))]) (st2 := [.long (-1), .long 0]) jF_232_7 rfl rfl) ?_
                        refine Eq.trans (jr_s (pc2 := 10) (lv2 := [(0, .long 0), (2, .long 0), (4, .long (-1))]) (st2 := [.int 1]) jF_232_9 rfl rfl) ?_
                        refine Eq.trans (jr_if1 jF_232_10 (by decide +kernel)) ?_
                        refine Eq.trans (jr_s (pc2 := 18) (lv2 := [(0, .long 0), (2, .long 0), (4, .long (-1))]) (st2 := [.int 0]) jF_232_17 rfl rfl) ?_
                        exact jr_ri jF_232_18 rfl
                      refine Eq.trans (jr_if1 jF_267_38 (by decide +kernel)) ?_
                      refine Eq.trans (jr_s (pc2 := 56) (lv2 := [(0, .ref 117), (1, .int 20)]) (st2 := [.long 0]) jF_267_55 rfl rfl) ?_
                      exact jr_rl jF_267_56
                    refine Eq.trans (jr_s (pc2 := 6) (lv2 := [(3, .long 0), (0, .ref 117), (1, .int 20), (2, .int a2)]) (st2 := []) jF_266_5 rfl rfl) ?_
                    refine Eq.trans (jr_s (pc2 := 7) (lv2 := [(3, .long 0), (0, .ref 117), (1, .int 20), (2, .int a2)]) (st2 := [.long 0]) jF_266_6 rfl rfl) ?_
                    refine Eq.trans (jr_s (pc2 := 8) (lv2 := [(3, .long 0), (0, .ref 117), (1, .int 20), (2, .int a2)]) (st2 := [.long 0, .long 0]) jF_266_7 rfl rfl) ?_
                    refine Eq.trans (jr_s (pc2 := 9) (lv2 := [(3, .long 0), (0, .ref 117), (1, .int 20), (2, .int a2)]) (st2 := [.int 0]) jF_266_8 rfl rfl) ?_
                    refine Eq.trans (jr_if1 jF_266_9 (by decide +kernel)) ?_
                    refine Eq.trans (jr_s (pc2 := 25) (lv2 := [(3, .long 0), (0, .ref 117), (1, .int 20), (2, .int a2)]) (st2 := [.int (-1)]) jF_266_24 rfl rfl) ?_
                    exact jr_ri jF_266_25 rfl
                · rcases j_ilt a1.toInt 22 with h_a1_22 | h_a1_22
                  · obtain rfl : a1 = 21 := Int32.toInt_inj.mp (by rw [show (21 : Int32).toInt = 21 from by decide]; omega)
                    refine ⟨60000, 60000, (-1), jh2, jh2, ?_, ?_, by decide +kernel⟩
                    · refine Eq.trans (jr_s (pc2 := 1) (lv2 := [(0, .ref 9), (1, .int 21), (2, .int a2)]) (st2 := [.ref 9]) jF_92_0 rfl rfl) ?_
                      refine Eq.trans (jr_gf (v := .ref 20) jF_92_1 (by decide +kernel)) ?_
                      refine Eq.trans (jr_s (pc2 := 5) (lv2 := [(0, .ref 9), (1, .int 21), (2, .int a2)]) (st2 := [.int 21, .ref 20]) jF_92_4 rfl rfl) ?_
                      refine Eq.trans (jr_s (pc2 := 6) (lv2 := [(0, .ref 9), (1, .int 21), (2, .int a2)]) (st2 := [.int a2, .int 21, .ref 20]) jF_92_5 rfl rfl) ?_
                      refine Eq.trans (jr_cV (a := 20) (as := [.int 21, .int a2]) (rest := []) (v := some (.int (-1))) (hp2 := jh2) (fr2 := 499) (lo2 := 19978) jF_92_6 (by decide +kernel) rfl (show j_cnd 500 20000 499 19978 3 _ _ = true from rfl) ?_) ?_
                      · refine Eq.trans (jr_s (pc2 := 1) (lv2 := [(0, .ref 20), (1, .int 21), (2, .int a2)]) (st2 := [.int 21]) jF_93_0 rfl rfl) ?_
                        refine Eq.trans (jr_if0 jF_93_1 (by decide +kernel)) ?_
                        refine Eq.trans (jr_s (pc2 := 5) (lv2 := [(0, .ref 20), (1, .int 21), (2, .int a2)]) (st2 := [.int 21]) jF_93_4 rfl rfl) ?_
                        refine Eq.trans (jr_s (pc2 := 6) (lv2 := [(0, .ref 20), (1, .int 21), (2, .int a2)]) (st2 := [.ref 20, .int 21]) jF_93_5 rfl rfl) ?_
                        refine Eq.trans (jr_gf (v := .ref 21) jF_93_6 (by decide +kernel)) ?_
                        refine Eq.trans (jr_al (v := 25) jF_93_9 (by decide +kernel)) ?_
                        refine Eq.trans (jr_ic0 jF_93_10 (by decide +kernel)) ?_
                        refine Eq.trans (jr_s (pc2 := 14) (lv2 := [(0, .ref 20), (1, .int 21), (2, .int a2)]) (st2 := [.int a2]) jF_93_13 rfl rfl) ?_
                        refine Eq.trans (jr_if0 jF_93_14 (jk_lt_ge (show (0 : Int32).toInt ≤ (a2 : Int32).toInt by rw [show (0 : Int32).toInt = 0 from by decide]; omega))) ?_
                        refine Eq.trans (jr_s (pc2 := 18) (lv2 := [(0, .ref 20), (1, .int 21), (2, .int a2)]) (st2 := [.int a2]) jF_93_17 rfl rfl) ?_
                        refine Eq.trans (jr_s (pc2 := 20) (lv2 := [(0, .ref 20), (1, .int 21), (2, .int a2)]) (st2 := [.int 6, .int a2]) jF_93_18 rfl rfl) ?_
                        refine Eq.trans (jr_ic1 jF_93_20 (jk_ge_ge (show (6 : Int32).toInt ≤ (a2 : Int32).toInt by rw [show (6 : Int32).toInt = 6 from by decide]; omega))) ?_
                        refine Eq.trans (jr_s (pc2 := 33) (lv2 := [(0, .ref 20), (1, .int 21), (2, .int a2)]) (st2 := [.int (-1)]) jF_93_32 rfl rfl) ?_
                        exact jr_ri jF_93_33 rfl
                      exact jr_ri jF_92_9 rfl
                    · refine Eq.trans (jr_s (pc2 := 1) (lv2 := [(0, .ref 117), (1, .int 21), (2, .int a2)]) (st2 := [.ref 117]) jF_266_0 rfl rfl) ?_
                      refine Eq.trans (jr_s (pc2 := 2) (lv2 := [(0, .ref 117), (1, .int 21), (2, .int a2)]) (st2 := [.int 21, .ref 117]) jF_266_1 rfl rfl) ?_
                      refine Eq.trans (jr_cV (a := 117) (as := [.int 21]) (rest := []) (v := some (.long 0)) (hp2 := jh2) (fr2 := 499) (lo2 := 19979) jF_266_2 (by decide +kernel) rfl (show j_cnd 500 20000 499 19979 2 _ _ = true from rfl) ?_) ?_
                      · refine Eq.trans (jr_s (pc2 := 1) (lv2 := [(0, .ref 117), (1, .int 21)]) (st2 := [.int 21]) jF_267_0 rfl rfl) ?_
                        refine Eq.trans (jr_s (pc2 := 2) (lv2 := [(0, .ref 117), (1, .int 21)]) (st2 := [.long 21]) jF_267_1 rfl rfl) ?_
                        refine Eq.trans (jr_s (pc2 := 3) (lv2 := [(0, .ref 117), (1, .int 21)]) (st2 := [.long 0, .long 21]) jF_267_2 rfl rfl) ?_
                        refine Eq.trans (jr_s (pc2 := 6) (lv2 := [(0, .ref 117), (1, .int 21)]) (st2 := [.long 17, .long 0, .long 21]) jF_267_3 rfl rfl) ?_
                        refine Eq.trans (jr_cS (as := [.long 21, .long 0, .long 17]) (rest := []) (v := some (.int 0)) (hp2 := jh2) (fr2 := 498) (lo2 := 19954) jF_267_6 rfl (show j_cnd 499 19979 498 19954 6 _ _ = true from rfl) ?_) ?_
                        · refine Eq.trans (jr_s (pc2 := 1) (lv2 := [(0, .long 21), (2, .long 0), (4, .long 17)]) (st2 := [.long 21]) jF_232_0 rfl rfl) ?_
                          refine Eq.trans (jr_s (pc2 := 2) (lv2 := [(0, .long 21), (2, .long 0), (4, .long 17)]) (st2 := [.long 0, .long 21]) jF_232_1 rfl rfl) ?_
                          refine Eq.trans (jr_s (pc2 := 3) (lv2 := [(0, .long 21), (2, .long 0), (4, .long 17)]) (st2 := [.int 1]) jF_232_2 rfl rfl) ?_
                          refine Eq.trans (jr_if0 jF_232_3 (by decide +kernel)) ?_
                          refine Eq.trans (jr_s (pc2 := 7) (lv2 := [(0, .long 21), (2, .long 0), (4, .long 17)]) (st2 := [.long 21]) jF_232_6 rfl rfl) ?_
                          refine Eq.trans (jr_s (pc2 := 9) (lv2 := [(0, .long 21), (2, .long 0), (4, .long 17)]) (st2 := [.long 17, .long 21]) jF_232_7 rfl rfl) ?_
                          refine Eq.trans (jr_s (pc2 := 10) (lv2 := [(0, .long 21), (2, .long 0), (4, .long 17)]) (st2 := [.int 1]) jF_232_9 rfl rfl) ?_
                          refine Eq.trans (jr_if1 jF_232_10 (by decide +kernel)) ?_
                          refine Eq.trans (jr_s (pc2 := 18) (lv2 := [(0, .long 21), (2, .long 0), (4, .long 17)]) (st2 := [.int 0]) jF_232_17 rfl rfl) ?_
                          exact jr_ri jF_232_18 rfl
                        refine Eq.trans (jr_if1 jF_267_9 (by decide +kernel)) ?_
                        refine Eq.trans (jr_s (pc2 := 23) (lv2 := [(0, .ref 117), (1, .int 21)]) (st2 := [.int 21]) jF_267_22 rfl rfl) ?_
                        refine Eq.trans (jr_s (pc2 := 25) (lv2 := [(0, .ref 117), (1, .int 21)]) (st2 := [.int 20, .int 21]) jF_267_23 rfl rfl) ?_
                        refine Eq.trans (jr_s (pc2 := 26) (lv2 := [(0, .ref 117), (1, .int 21)]) (st2 := [.int 1]) jF_267_25 rfl rfl) ?_
                        refine Eq.trans (jr_s (pc2 := 27) (lv2 := [(0, .ref 117), (1, .int 21)]) (st2 := [.long 1]) jF_267_26 rfl rfl) ?_
                        refine Eq.trans (jr_s (pc2 := 28) (lv2 := [(0, .ref 117), (1, .int 21)]) (st2 := [.long 0, .long 1]) jF_267_27 rfl rfl) ?_
                        refine Eq.trans (jr_s (pc2 := 29) (lv2 := [(0, .ref 117), (1, .int 21)]) (st2 := [.ref 117, .long 0, .long 1]) jF_267_28 rfl rfl) ?_
                        refine Eq.trans (jr_gf (v := .int 0) jF_267_29 (by decide +kernel)) ?_
                        refine Eq.trans (jr_s (pc2 := 33) (lv2 := [(0, .ref 117), (1, .int 21)]) (st2 := [.int 1, .int 0, .long 0, .long 1]) jF_267_32 rfl rfl) ?_
                        refine Eq.trans (jr_s (pc2 := 34) (lv2 := [(0, .ref 117), (1, .int 21)]) (st2 := [.int (-1), .long 0, .long 1]) jF_267_33 rfl rfl) ?_
                        refine Eq.trans (jr_s (pc2 := 35) (lv2 := [(0, .ref 117), (1, .int 21)]) (st2 := [.long (-1), .long 0, .long 1]) jF_267_34 rfl rfl) ?_
                        refine Eq.trans (jr_cS (as := [.long 1, .long 0, .long (-1)]) (rest := []) (v := some (.int 0)) (hp2 := jh2) (fr2 := 498) (lo2 := 19954) jF_267_35 rfl (show j_cnd 499 19979 498 19954 6 _ _ = true from rfl) ?_) ?_
                        · refine Eq.trans (jr_s (pc2 := 1) (lv2 := [(0, .long 1), (2, .long 0), (4, .long (-1))]) (st2 := [.long 1]) jF_232_0 rfl rfl) ?_
                          refine Eq.trans (jr_s (pc2 := 2) (lv2 := [(0, .long 1), (2, .long 0), (4, .long (-1))]) (st2 := [.long 0, .long 1]) jF_232_1 rfl rfl) ?_
                          refine Eq.trans (jr_s (pc2 := 3) (lv2 := [(0, .long 1), (2, .long 0), (4, .long (-1))]) (st2 := [.int 1]) jF_232_2 rfl rfl) ?_
                          refine Eq.trans (jr_if0 jF_232_3 (by decide +kernel)) ?_
                          refine Eq.trans (jr_s (pc2 := 7) (lv2 := [(0, .long 1), (2, .long 0), (4, .long (-1))]) (st2 := [.long 1]) jF_232_6 rfl rfl) ?_
                          refine Eq.trans (jr_s (pc2 := 9) (lv2 := [(0, .long 1), (2, .long 0), (4, .long (-1))]) (st2 := [.long (-1), .long 1]) jF_232_7 rfl rfl) ?_
                          refine Eq.trans (jr_s (pc2 := 10) (lv2 := [(0, .long 1), (2, .long 0), (4, .long (-1))]) (st2 := [.int 1]) jF_232_9 rfl rfl) ?_
                          refine Eq.trans (jr_if1 jF_232_10 (by decide +kernel)) ?_
                          refine Eq.trans (jr_s (pc2 := 18) (lv2 := [(0, .long 1), (2, .long 0), (4, .long (-1))]) (st2 := [.int 0]) jF_232_17 rfl rfl) ?_
                          exact jr_ri jF_232_18 rfl
                        refine Eq.trans (jr_if1 jF_267_38 (by decide +kernel)) ?_
                        refine Eq.trans (jr_s (pc2 := 56) (lv2 := [(0, .ref 117), (1, .int 21)]) (st2 := [.long 0]) jF_267_55 rfl rfl) ?_
                        exact jr_rl jF_267_56
                      refine Eq.trans (jr_s (pc2 := 6) (lv2 := [(3, .long 0), (0, .ref 117), (1, .int 21), (2, .int a2)]) (st2 := []) jF_266_5 rfl rfl) ?_
                      refine Eq.trans (jr_s (pc2 := 7) (lv2 := [(3, .long 0), (0, .ref 117), (1, .int 21), (2, .int a2)]) (st2 := [.long 0]) jF_266_6 rfl rfl) ?_
                      refine Eq.trans (jr_s (pc2 := 8) (lv2 := [(3, .long 0), (0, .ref 117), (1, .int 21), (2, .int a2)]) (st2 := [.long 0, .long 0]) jF_266_7 rfl rfl) ?_
                      refine Eq.trans (jr_s (pc2 := 9) (lv2 := [(3, .long 0), (0, .ref 117), (1, .int 21), (2, .int a2)]) (st2 := [.int 0]) jF_266_8 rfl rfl) ?_
                      refine Eq.trans (jr_if1 jF_266_9 (by decide +kernel)) ?_
                      refine Eq.trans (jr_s (pc2 := 25) (lv2 := [(3, .long 0), (0, .ref 117), (1, .int 21), (2, .int a2)]) (st2 := [.int (-1)]) jF_266_24 rfl rfl) ?_
                      exact jr_ri jF_266_25 rfl
                  · rcases j_ilt a1.toInt 23 with h_a1_23 | h_a1_23
                    · obtain rfl : a1 = 22 := Int32.toInt_inj.mp (by rw [show (22 : Int32).toInt = 22 from by decide]; omega)
                      refine ⟨60000, 60000, (-1), jh2, jh2, ?_, ?_, by decide +kernel⟩
                      · refine Eq.trans (jr_s (pc2 := 1) (lv2 := [(0, .ref 9), (1, .int 22), (2, .int a2)]) (st2 := [.ref 9]) jF_92_0 rfl rfl) ?_
                        refine Eq.trans (jr_gf (v := .ref 20) jF_92_1 (by decide +kernel)) ?_
                        refine Eq.trans (jr_s (pc2 := 5) (lv2 := [(0, .ref 9), (1, .int 22), (2, .int a2)]) (st2 := [.int 22, .ref 20]) jF_92_4 rfl rfl) ?_
                        refine Eq.trans (jr_s (pc2 := 6) (lv2 := [(0, .ref 9), (1, .int 22), (2, .int a2)]) (st2 := [.int a2, .int 22, .ref 20]) jF_92_5 rfl rfl) ?_
                        refine Eq.trans (jr_cV (a := 20) (as := [.int 22, .int a2]) (rest := []) (v := some (.int (-1))) (hp2 := jh2) (fr2 := 499) (lo2 := 19978) jF_92_6 (by decide +kernel) rfl (show j_cnd 500 20000 499 19978 3 _ _ = true from rfl) ?_) ?_
                        · refine Eq.trans (jr_s (pc2 := 1) (lv2 := [(0, .ref 20), (1, .int 22), (2, .int a2)]) (st2 := [.int 22]) jF_93_0 rfl rfl) ?_
                          refine Eq.trans (jr_if0 jF_93_1 (by decide +kernel)) ?_
                          refine Eq.trans (jr_s (pc2 := 5) (lv2 := [(0, .ref 20), (1, .int 22), (2, .int a2)]) (st2 := [.int 22]) jF_93_4 rfl rfl) ?_
                          refine Eq.trans (jr_s (pc2 := 6) (lv2 := [(0, .ref 20), (1, .int 22), (2, .int a2)]) (st2 := [.ref 20, .int 22]) jF_93_5 rfl rfl) ?_
                          refine Eq.trans (jr_gf (v := .ref 21) jF_93_6 (by decide +kernel)) ?_
                          refine Eq.trans (jr_al (v := 25) jF_93_9 (by decide +kernel)) ?_
                          refine Eq.trans (jr_ic0 jF_93_10 (by decide +kernel)) ?_
                          refine Eq.trans (jr_s (pc2 := 14) (lv2 := [(0, .ref 20), (1, .int 22), (2, .int a2)]) (st2 := [.int a2]) jF_93_13 rfl rfl) ?_
                          refine Eq.trans (jr_if0 jF_93_14 (jk_lt_ge (show (0 : Int32).toInt ≤ (a2 : Int32).toInt by rw [show (0 : Int32).toInt = 0 from by decide]; omega))) ?_
                          refine Eq.trans (jr_s (pc2 := 18) (lv2 := [(0, .ref 20), (1, .int 22), (2, .int a2)]) (st2 := [.int a2]) jF_93_17 rfl rfl) ?_
                          refine Eq.trans (jr_s (pc2 := 20) (lv2 := [(0, .ref 20), (1, .int 22), (2, .int a2)]) (st2 := [.int 6, .int a2]) jF_93_18 rfl rfl) ?_
                          refine Eq.trans (jr_ic1 jF_93_20 (jk_ge_ge (show (6 : Int32).toInt ≤ (a2 : Int32).toInt by rw [show (6 : Int32).toInt = 6 from by decide]; omega))) ?_
                          refine Eq.trans (jr_s (pc2 := 33) (lv2 := [(0, .ref 20), (1, .int 22), (2, .int a2)]) (st2 := [.int (-1)]) jF_93_32 rfl rfl) ?_
                          exact jr_ri jF_93_33 rfl
                        exact jr_ri jF_92_9 rfl
                      · refine Eq.trans (jr_s (pc2 := 1) (lv2 := [(0, .ref 117), (1, .int 22), (2, .int a2)]) (st2 := [.ref 117]) jF_266_0 rfl rfl) ?_
                        refine Eq.trans (jr_s (pc2 := 2) (lv2 := [(0, .ref 117), (1, .int 22), (2, .int a2)]) (st2 := [.int 22, .ref 117]) jF_266_1 rfl rfl) ?_
                        refine Eq.trans (jr_cV (a := 117) (as := [.int 22]) (rest := []) (v := some (.long 0)) (hp2 := jh2) (fr2 := 499) (lo2 := 19979) jF_266_2 (by decide +kernel) rfl (show j_cnd 500 20000 499 19979 2 _ _ = true from rfl) ?_) ?_
                        · refine Eq.trans (jr_s (pc2 := 1) (lv2 := [(0, .ref 117), (1, .int 22)]) (st2 := [.int 22]) jF_267_0 rfl rfl) ?_
                          refine Eq.trans (jr_s (pc2 := 2) (lv2 := [(0, .ref 117), (1, .int 22)]) (st2 := [.long 22]) jF_267_1 rfl rfl) ?_
                          refine Eq.trans (jr_s (pc2 := 3) (lv2 := [(0, .ref 117), (1, .int 22)]) (st2 := [.long 0, .long 22]) jF_267_2 rfl rfl) ?_
                          refine Eq.trans (jr_s (pc2 := 6) (lv2 := [(0, .ref 117), (1, .int 22)]) (st2 := [.long 17, .long 0, .long 22]) jF_267_3 rfl rfl) ?_
                          refine Eq.trans (jr_cS (as := [.long 22, .long 0, .long 17]) (rest := []) (v := some (.int 0)) (hp2 := jh2) (fr2 := 498) (lo2 := 19954) jF_267_6 rfl (show j_cnd 499 19979 498 19954 6 _ _ = true from rfl) ?_) ?_
                          · refine Eq.trans (jr_s (pc2 := 1) (lv2 := [(0, .long 22), (2, .long 0), (4, .long 17)]) (st2 := [.long 22]) jF_232_0 rfl rfl) ?_
                            refine Eq.trans (jr_s (pc2 := 2) (lv2 := [(0, .long 22), (2, .long 0), (4, .long 17)]) (st2 := [.long 0, .long 22]) jF_232_1 rfl rfl) ?_
                            refine Eq.trans (jr_s (pc2 := 3) (lv2 := [(0, .long 22), (2, .long 0), (4, .long 17)]) (st2 := [.int 1]) jF_232_2 rfl rfl) ?_
                            refine Eq.trans (jr_if0 jF_232_3 (by decide +kernel)) ?_
                            refine Eq.trans (jr_s (pc2 := 7) (lv2 := [(0, .long 22), (2, .long 0), (4, .long 17)]) (st2 := [.long 22]) jF_232_6 rfl rfl) ?_
                            refine Eq.trans (jr_s (pc2 := 9) (lv2 := [(0, .long 22), (2, .long 0), (4, .long 17)]) (st2 := [.long 17, .long 22]) jF_232_7 rfl rfl) ?_
                            refine Eq.trans (jr_s (pc2 := 10) (lv2 := [(0, .long 22), (2, .long 0), (4, .long 17)]) (st2 := [.int 1]) jF_232_9 rfl rfl) ?_
                            refine Eq.trans (jr_if1 jF_232_10 (by decide +kernel)) ?_
                            refine Eq.trans (jr_s (pc2 := 18) (lv2 := [(0, .long 22), (2, .long 0), (4, .long 17)]) (st2 := [.int 0]) jF_232_17 rfl rfl) ?_
                            exact jr_ri jF_232_18 rfl
                          refine Eq.trans (jr_if1 jF_267_9 (by decide +kernel)) ?_
                          refine Eq.trans (jr_s (pc2 := 23) (lv2 := [(0, .ref 117), (1, .int 22)]) (st2 := [.int 22]) jF_267_22 rfl rfl) ?_
                          refine Eq.trans (jr_s (pc2 := 25) (lv2 := [(0, .ref 117), (1, .int 22)]) (st2 := [.int 20, .int 22]) jF_267_23 rfl rfl) ?_
                          refine Eq.trans (jr_s (pc2 := 26) (lv2 := [(0, .ref 117), (1, .int 22)]) (st2 := [.int 2]) jF_267_25 rfl rfl) ?_
                          refine Eq.trans (jr_s (pc2 := 27) (lv2 := [(0, .ref 117), (1, .int 22)]) (st2 := [.long 2]) jF_267_26 rfl rfl) ?_
                          refine Eq.trans (jr_s (pc2 := 28) (lv2 := [(0, .ref 117), (1, .int 22)]) (st2 := [.long 0, .long 2]) jF_267_27 rfl rfl) ?_
                          refine Eq.trans (jr_s (pc2 := 29) (lv2 := [(0, .ref 117), (1, .int 22)]) (st2 := [.ref 117, .long 0, .long 2]) jF_267_28 rfl rfl) ?_
                          refine Eq.trans (jr_gf (v := .int 0) jF_267_29 (by decide +kernel)) ?_
                          refine Eq.trans (jr_s (pc2 := 33) (lv2 := [(0, .ref 117), (1, .int 22)]) (st2 := [.int 1, .int 0, .long 0, .long 2]) jF_267_32 rfl rfl) ?_
                          refine Eq.trans (jr_s (pc2 := 34) (lv2 := [(0, .ref 117), (1, .int 22)]) (st2 := [.int (-1), .long 0, .long 2]) jF_267_33 rfl rfl) ?_
                          refine Eq.trans (jr_s (pc2 := 35) (lv2 := [(0, .ref 117), (1, .int 22)]) (st2 := [.long (-1), .long 0, .long 2]) jF_267_34 rfl rfl) ?_
                          refine Eq.trans (jr_cS (as := [.long 2, .long 0, .long (-1)]) (rest := []) (v := some (.int 0)) (hp2 := jh2) (fr2 := 498) (lo2 := 19954) jF_267_35 rfl (show j_cnd 499 19979 498 19954 6 _ _ = true from rfl) ?_) ?_
                          · refine Eq.trans (jr_s (pc2 := 1) (lv2 := [(0, .long 2), (2, .long 0), (4, .long (-1))]) (st2 := [.long 2]) jF_232_0 rfl rfl) ?_
                            refine Eq.trans (jr_s (pc2 := 2) (lv2 := [(0, .long 2), (2, .long 0), (4, .long (-1))]) (st2 := [.long 0, .long 2]) jF_232_1 rfl rfl) ?_
                            refine Eq.trans (jr_s (pc2 := 3) (lv2 := [(0, .long 2), (2, .long 0), (4, .long (-1))]) (st2 := [.int 1]) jF_232_2 rfl rfl) ?_
                            refine Eq.trans (jr_if0 jF_232_3 (by decide +kernel)) ?_
                            refine Eq.trans (jr_s (pc2 := 7) (lv2 := [(0, .long 2), (2, .long 0), (4, .long (-1))]) (st2 := [.long 2]) jF_232_6 rfl rfl) ?_
                            refine Eq.trans (jr_s (pc2 := 9) (lv2 := [(0, .long 2), (2, .long 0), (4, .long (-1))]) (st2 := [.long (-1), .long 2]) jF_232_7 rfl rfl) ?_
                            refine Eq.trans (jr_s (pc2 := 10) (lv2 := [(0, .long 2), (2, .long 0), (4, .long (-1))]) (st2 := [.int 1]) jF_232_9 rfl rfl) ?_
                            refine Eq.trans (jr_if1 jF_232_10 (by decide +kernel)) ?_
                            refine Eq.trans (jr_s (pc2 := 18) (lv2 := [(0, .long 2), (2, .long 0), (4, .long (-1))]) (st2 := [.int 0]) jF_232_17 rfl rfl) ?_
                            exact jr_ri jF_232_18 rfl
                          refine Eq.trans (jr_if1 jF_267_38 (by decide +kernel)) ?_
                          refine Eq.trans (jr_s (pc2 := 56) (lv2 := [(0, .ref 117), (1, .int 22)]) (st2 := [.long 0]) jF_267_55 rfl rfl) ?_
                          exact jr_rl jF_267_56
                        refine Eq.trans (jr_s (pc2 := 6) (lv2 := [(3, .long 0), (0, .ref 117), (1, .int 22), (2, .int a2)]) (st2 := []) jF_266_5 rfl rfl) ?_
                        refine Eq.trans (jr_s (pc2 := 7) (lv2 := [(3, .long 0), (0, .ref 117), (1, .int 22), (2, .int a2)]) (st2 := [.long 0]) jF_266_6 rfl rfl) ?_
                        refine Eq.trans (jr_s (pc2 := 8) (lv2 := [(3, .long 0), (0, .ref 117), (1, .int 22), (2, .int a2)]) (st2 := [.long 0, .long 0]) jF_266_7 rfl rfl) ?_
                        refine Eq.trans (jr_s (pc2 := 9) (lv2 := [(3, .long 0), (0, .ref 117), (1, .int 22), (2, .int a2)]) (st2 := [.int 0]) jF_266_8 rfl rfl) ?_
                        refine Eq.trans (jr_if1 jF_266_9 (by decide +kernel)) ?_
                        refine Eq.trans (jr_s (pc2 := 25) (lv2 := [(3, .long 0), (0, .ref 117), (1, .int 22), (2, .int a2)]) (st2 := [.int (-1)]) jF_266_24 rfl rfl) ?_
                        exact jr_ri jF_266_25 rfl
                    · rcases j_ilt a1.toInt 24 with h_a1_24 | h_a1_24
                      · obtain rfl : a1 = 23 := Int32.toInt_inj.mp (by rw [show (23 : Int32).toInt = 23 from by decide]; omega)
                        refine ⟨60000, 60000, (-1), jh2, jh2, ?_, ?_, by decide +kernel⟩
                        · refine Eq.trans (jr_s (pc2 := 1) (lv2 := [(0, .ref 9), (1, .int 23), (2, .int a2)]) (st2 := [.ref 9]) jF_92_0 rfl rfl) ?_
                          refine Eq.trans (jr_gf (v := .ref 20) jF_92_1 (by decide +kernel)) ?_
                          refine Eq.trans (jr_s (pc2 := 5) (lv2 := [(0, .ref 9), (1, .int 23), (2, .int a2)]) (st2 := [.int 23, .ref 20]) jF_92_4 rfl rfl) ?_
                          refine Eq.trans (jr_s (pc2 := 6) (lv2 := [(0, .ref 9), (1, .int 23), (2, .int a2)]) (st2 := [.int a2, .int 23, .ref 20]) jF_92_5 rfl rfl) ?_
                          refine Eq.trans (jr_cV (a := 20) (as := [.int 23, .int a2]) (rest := []) (v := some (.int (-1))) (hp2 := jh2) (fr2 := 499) (lo2 := 19978) jF_92_6 (by decide +kernel) rfl (show j_cnd 500 20000 499 19978 3 _ _ = true from rfl) ?_) ?_
                          · refine Eq.trans (jr_s (pc2 := 1) (lv2 := [(0, .ref 20), (1, .int 23), (2, .int a2)]) (st2 := [.int 23]) jF_93_0 rfl rfl) ?_
                            refine Eq.trans (jr_if0 jF_93_1 (by decide +kernel)) ?_
                            refine Eq.trans (jr_s (pc2 := 5) (lv2 := [(0, .ref 20), (1, .int 23), (2, .int a2)]) (st2 := [.int 23]) jF_93_4 rfl rfl) ?_
                            refine Eq.trans (jr_s (pc2 := 6) (lv2 := [(0, .ref 20), (1, .int 23), (2, .int a2)]) (st2 := [.ref 20, .int 23]) jF_93_5 rfl rfl) ?_
                            refine Eq.trans (jr_gf (v := .ref 21) jF_93_6 (by decide +kernel)) ?_
                            refine Eq.trans (jr_al (v := 25) jF_93_9 (by decide +kernel)) ?_
                            refine Eq.trans (jr_ic0 jF_93_10 (by decide +kernel)) ?_
                            refine Eq.trans (jr_s (pc2 := 14) (lv2 := [(0, .ref 20), (1, .int 23), (2, .int a2)]) (st2 := [.int a2]) jF_93_13 rfl rfl) ?_
                            refine Eq.trans (jr_if0 jF_93_14 (jk_lt_ge (show (0 : Int32).toInt ≤ (a2 : Int32).toInt by rw [show (0 : Int32).toInt = 0 from by decide]; omega))) ?_
                            refine Eq.trans (jr_s (pc2 := 18) (lv2 := [(0, .ref 20), (1, .int 23), (2, .int a2)]) (st2 := [.int a2]) jF_93_17 rfl rfl) ?_
                            refine Eq.trans (jr_s (pc2 := 20) (lv2 := [(0, .ref 20), (1, .int 23), (2, .int a2)]) (st2 := [.int 6, .int a2]) jF_93_18 rfl rfl) ?_
                            refine Eq.trans (jr_ic1 jF_93_20 (jk_ge_ge (show (6 : Int32).toInt ≤ (a2 : Int32).toInt by rw [show (6 : Int32).toInt = 6 from by decide]; omega))) ?_
                            refine Eq.trans (jr_s (pc2 := 33) (lv2 := [(0, .ref 20), (1, .int 23), (2, .int a2)]) (st2 := [.int (-1)]) jF_93_32 rfl rfl) ?_
                            exact jr_ri jF_93_33 rfl
                          exact jr_ri jF_92_9 rfl
                        · refine Eq.trans (jr_s (pc2 := 1) (lv2 := [(0, .ref 117), (1, .int 23), (2, .int a2)]) (st2 := [.ref 117]) jF_266_0 rfl rfl) ?_
                          refine Eq.trans (jr_s (pc2 := 2) (lv2 := [(0, .ref 117), (1, .int 23), (2, .int a2)]) (st2 := [.int 23, .ref 117]) jF_266_1 rfl rfl) ?_
                          refine Eq.trans (jr_cV (a := 117) (as := [.int 23]) (rest := []) (v := some (.long 0)) (hp2 := jh2) (fr2 := 499) (lo2 := 19979) jF_266_2 (by decide +kernel) rfl (show j_cnd 500 20000 499 19979 2 _ _ = true from rfl) ?_) ?_
                          · refine Eq.trans (jr_s (pc2 := 1) (lv2 := [(0, .ref 117), (1, .int 23)]) (st2 := [.int 23]) jF_267_0 rfl rfl) ?_
                            refine Eq.trans (jr_s (pc2 := 2) (lv2 := [(0, .ref 117), (1, .int 23)]) (st2 := [.long 23]) jF_267_1 rfl rfl) ?_
                            refine Eq.trans (jr_s (pc2 := 3) (lv2 := [(0, .ref 117), (1, .int 23)]) (st2 := [.long 0, .long 23]) jF_267_2 rfl rfl) ?_
                            refine Eq.trans (jr_s (pc2 := 6) (lv2 := [(0, .ref 117), (1, .int 23)]) (st2 := [.long 17, .long 0, .long 23]) jF_267_3 rfl rfl) ?_
                            refine Eq.trans (jr_cS (as := [.long 23, .long 0, .long 17]) (rest := []) (v := some (.int 0)) (hp2 := jh2) (fr2 := 498) (lo2 := 19954) jF_267_6 rfl (show j_cnd 499 19979 498 19954 6 _ _ = true from rfl) ?_) ?_
                            · refine Eq.trans (jr_s (pc2 := 1) (lv2 := [(0, .long 23), (2, .long 0), (4, .long 17)]) (st2 := [.long 23]) jF_232_0 rfl rfl) ?_
                              refine Eq.trans (jr_s (pc2 := 2) (lv2 := [(0, .long 23), (2, .long 0), (4, .long 17)]) (st2 := [.long 0, .long 23]) jF_232_1 rfl rfl) ?_
                              refine Eq.trans (jr_s (pc2 := 3) (lv2 := [(0, .long 23), (2, .long 0), (4, .long 17)]) (st2 := [.int 1]) jF_232_2 rfl rfl) ?_
                              refine Eq.trans (jr_if0 jF_232_3 (by decide +kernel)) ?_
                              refine Eq.trans (jr_s (pc2 := 7) (lv2 := [(0, .long 23), (2, .long 0), (4, .long 17)]) (st2 := [.long 23]) jF_232_6 rfl rfl) ?_
                              refine Eq.trans (jr_s (pc2 := 9) (lv2 := [(0, .long 23), (2, .long 0), (4, .long 17)]) (st2 := [.long 17, .long 23]) jF_232_7 rfl rfl) ?_
                              refine Eq.trans (jr_s (pc2 := 10) (lv2 := [(0, .long 23), (2, .long 0), (4, .long 17)]) (st2 := [.int 1]) jF_232_9 rfl rfl) ?_
                              refine Eq.trans (jr_if1 jF_232_10 (by decide +kernel)) ?_
                              refine Eq.trans (jr_s (pc2 := 18) (lv2 := [(0, .long 23), (2, .long 0), (4, .long 17)]) (st2 := [.int 0]) jF_232_17 rfl rfl) ?_
                              exact jr_ri jF_232_18 rfl
                            refine Eq.trans (jr_if1 jF_267_9 (by decide +kernel)) ?_
                            refine Eq.trans (jr_s (pc2 := 23) (lv2 := [(0, .ref 117), (1, .int 23)]) (st2 := [.int 23]) jF_267_22 rfl rfl) ?_
                            refine Eq.trans (jr_s (pc2 := 25) (lv2 := [(0, .ref 117), (1, .int 23)]) (st2 := [.int 20, .int 23]) jF_267_23 rfl rfl) ?_
                            refine Eq.trans (jr_s (pc2 := 26) (lv2 := [(0, .ref 117), (1, .int 23)]) (st2 := [.int 3]) jF_267_25 rfl rfl) ?_
                            refine Eq.trans (jr_s (pc2 := 27) (lv2 := [(0, .ref 117), (1, .int 23)]) (st2 := [.long 3]) jF_267_26 rfl rfl) ?_
                            refine Eq.trans (jr_s (pc2 := 28) (lv2 := [(0, .ref 117), (1, .int 23)]) (st2 := [.long 0, .long 3]) jF_267_27 rfl rfl) ?_
                            refine Eq.trans (jr_s (pc2 := 29) (lv2 := [(0, .ref 117), (1, .int 23)]) (st2 := [.ref 117, .long 0, .long 3]) jF_267_28 rfl rfl) ?_
                            refine Eq.trans (jr_gf (v := .int 0) jF_267_29 (by decide +kernel)) ?_
                            refine Eq.trans (jr_s (pc2 := 33) (lv2 := [(0, .ref 117), (1, .int 23)]) (st2 := [.int 1, .int 0, .long 0, .long 3]) jF_267_32 rfl rfl) ?_
                            refine Eq.trans (jr_s (pc2 := 34) (lv2 := [(0, .ref 117), (1, .int 23)]) (st2 := [.int (-1), .long 0, .long 3]) jF_267_33 rfl rfl) ?_
                            refine Eq.trans (jr_s (pc2 := 35) (lv2 := [(0, .ref 117), (1, .int 23)]) (st2 := [.long (-1), .long 0, .long 3]) jF_267_34 rfl rfl) ?_
                            refine Eq.trans (jr_cS (as := [.long 3, .long 0, .long (-1)]) (rest := []) (v := some (.int 0)) (hp2 := jh2) (fr2 := 498) (lo2 := 19954) jF_267_35 rfl (show j_cnd 499 19979 498 19954 6 _ _ = true from rfl) ?_) ?_
                            · refine Eq.trans (jr_s (pc2 := 1) (lv2 := [(0, .long 3), (2, .long 0), (4, .long (-1))]) (st2 := [.long 3]) jF_232_0 rfl rfl) ?_
                              refine Eq.trans (jr_s (pc2 := 2) (lv2 := [(0, .long 3), (2, .long 0), (4, .long (-1))]) (st2 := [.long 0, .long 3]) jF_232_1 rfl rfl) ?_
                              refine Eq.trans (jr_s (pc2 := 3) (lv2 := [(0, .long 3), (2, .long 0), (4, .long (-1))]) (st2 := [.int 1]) jF_232_2 rfl rfl) ?_
                              refine Eq.trans (jr_if0 jF_232_3 (by decide +kernel)) ?_
                              refine Eq.trans (jr_s (pc2 := 7) (lv2 := [(0, .long 3), (2, .long 0), (4, .long (-1))]) (st2 := [.long 3]) jF_232_6 rfl rfl) ?_
                              refine Eq.trans (jr_s (pc2 := 9) (lv2 := [(0, .long 3), (2, .long 0), (4, .long (-1))]) (st2 := [.long (-1), .long 3]) jF_232_7 rfl rfl) ?_
                              refine Eq.trans (jr_s (pc2 := 10) (lv2 := [(0, .long 3), (2, .long 0), (4, .long (-1))]) (st2 := [.int 1]) jF_232_9 rfl rfl) ?_
                              refine Eq.trans (jr_if1 jF_232_10 (by decide +kernel)) ?_
                              refine Eq.trans (jr_s (pc2 := 18) (lv2 := [(0, .long 3), (2, .long 0), (4, .long (-1))]) (st2 := [.int 0]) jF_232_17 rfl rfl) ?_
                              exact jr_ri jF_232_18 rfl
                            refine Eq.trans (jr_if1 jF_267_38 (by decide +kernel)) ?_
                            refine Eq.trans (jr_s (pc2 := 56) (lv2 := [(0, .ref 117), (1, .int 23)]) (st2 := [.long 0]) jF_267_55 rfl rfl) ?_
                            exact jr_rl jF_267_56
                          refine Eq.trans (jr_s (pc2 := 6) (lv2 := [(3, .long 0), (0, .ref 117), (1, .int 23), (2, .int a2)]) (st2 := []) jF_266_5 rfl rfl) ?_
                          refine Eq.trans (jr_s (pc2 := 7) (lv2 := [(3, .long 0), (0, .ref 117), (1, .int 23), (2, .int a2)]) (st2 := [.long 0]) jF_266_6 rfl rfl) ?_
                          refine Eq.trans (jr_s (pc2 := 8) (lv2 := [(3, .long 0), (0, .ref 117), (1, .int 23), (2, .int a2)]) (st2 := [.long 0, .long 0]) jF_266_7 rfl rfl) ?_
                          refine Eq.trans (jr_s (pc2 := 9) (lv2 := [(3, .long 0), (0, .ref 117), (1, .int 23), (2, .int a2)]) (st2 := [.int 0]) jF_266_8 rfl rfl) ?_
                          refine Eq.trans (jr_if1 jF_266_9 (by decide +kernel)) ?_
                          refine Eq.trans (jr_s (pc2 := 25) (lv2 := [(3, .long 0), (0, .ref 117), (1, .int 23), (2, .int a2)]) (st2 := [.int (-1)]) jF_266_24 rfl rfl) ?_
                          exact jr_ri jF_266_25 rfl
                      · obtain rfl : a1 = 24 := Int32.toInt_inj.mp (by rw [show (24 : Int32).toInt = 24 from by decide]; omega)
                        refine ⟨60000, 60000, (-1), jh2, jh2, ?_, ?_, by decide +kernel⟩
                        · refine Eq.trans (jr_s (pc2 := 1) (lv2 := [(0, .ref 9), (1, .int 24), (2, .int a2)]) (st2 := [.ref 9]) jF_92_0 rfl rfl) ?_
                          refine Eq.trans (jr_gf (v := .ref 20) jF_92_1 (by decide +kernel)) ?_
                          refine Eq.trans (jr_s (pc2 := 5) (lv2 := [(0, .ref 9), (1, .int 24), (2, .int a2)]) (st2 := [.int 24, .ref 20]) jF_92_4 rfl rfl) ?_
                          refine Eq.trans (jr_s (pc2 := 6) (lv2 := [(0, .ref 9), (1, .int 24), (2, .int a2)]) (st2 := [.int a2, .int 24, .ref 20]) jF_92_5 rfl rfl) ?_
                          refine Eq.trans (jr_cV (a := 20) (as := [.int 24, .int a2]) (rest := []) (v := some (.int (-1))) (hp2 := jh2) (fr2 := 499) (lo2 := 19978) jF_92_6 (by decide +kernel) rfl (show j_cnd 500 20000 499 19978 3 _ _ = true from rfl) ?_) ?_
                          · refine Eq.trans (jr_s (pc2 := 1) (lv2 := [(0, .ref 20), (1, .int 24), (2, .int a2)]) (st2 := [.int 24]) jF_93_0 rfl rfl) ?_
                            refine Eq.trans (jr_if0 jF_93_1 (by decide +kernel)) ?_
                            refine Eq.trans (jr_s (pc2 := 5) (lv2 := [(0, .ref 20), (1, .int 24), (2, .int a2)]) (st2 := [.int 24]) jF_93_4 rfl rfl) ?_
                            refine Eq.trans (jr_s (pc2 := 6) (lv2 := [(0, .ref 20), (1, .int 24), (2, .int a2)]) (st2 := [.ref 20, .int 24]) jF_93_5 rfl rfl) ?_
                            refine Eq.trans (jr_gf (v := .ref 21) jF_93_6 (by decide +kernel)) ?_
                            refine Eq.trans (jr_al (v := 25) jF_93_9 (by decide +kernel)) ?_
                            refine Eq.trans (jr_ic0 jF_93_10 (by decide +kernel)) ?_
                            refine Eq.trans (jr_s (pc2 := 14) (lv2 := [(0, .ref 20), (1, .int 24), (2, .int a2)]) (st2 := [.int a2]) jF_93_13 rfl rfl) ?_
                            refine Eq.trans (jr_if0 jF_93_14 (jk_lt_ge (show (0 : Int32).toInt ≤ (a2 : Int32).toInt by rw [show (0 : Int32).toInt = 0 from by decide]; omega))) ?_
                            refine Eq.trans (jr_s (pc2 := 18) (lv2 := [(0, .ref 20), (1, .int 24), (2, .int a2)]) (st2 := [.int a2]) jF_93_17 rfl rfl) ?_
                            refine Eq.trans (jr_s (pc2 := 20) (lv2 := [(0, .ref 20), (1, .int 24), (2, .int a2)]) (st2 := [.int 6, .int a2]) jF_93_18 rfl rfl) ?_
                            refine Eq.trans (jr_ic1 jF_93_20 (jk_ge_ge (show (6 : Int32).toInt ≤ (a2 : Int32).toInt by rw [show (6 : Int32).toInt = 6 from by decide]; omega))) ?_
                            refine Eq.trans (jr_s (pc2 := 33) (lv2 := [(0, .ref 20), (1, .int 24), (2, .int a2)]) (st2 := [.int (-1)]) jF_93_32 rfl rfl) ?_
                            exact jr_ri jF_93_33 rfl
                          exact jr_ri jF_92_9 rfl
                        · refine Eq.trans (jr_s (pc2 := 1) (lv2 := [(0, .ref 117), (1, .int 24), (2, .int a2)]) (st2 := [.ref 117]) jF_266_0 rfl rfl) ?_
                          refine Eq.trans (jr_s (pc2 := 2) (lv2 := [(0, .ref 117), (1, .int 24), (2, .int a2)]) (st2 := [.int 24, .ref 117]) jF_266_1 rfl rfl) ?_
                          refine Eq.trans (jr_cV (a := 117) (as := [.int 24]) (rest := []) (v := some (.long 0)) (hp2 := jh2) (fr2 := 499) (lo2 := 19979) jF_266_2 (by decide +kernel) rfl (show j_cnd 500 20000 499 19979 2 _ _ = true from rfl) ?_) ?_
                          · refine Eq.trans (jr_s (pc2 := 1) (lv2 := [(0, .ref 117), (1, .int 24)]) (st2 := [.int 24]) jF_267_0 rfl rfl) ?_
                            refine Eq.trans (jr_s (pc2 := 2) (lv2 := [(0, .ref 117), (1, .int 24)]) (st2 := [.long 24]) jF_267_1 rfl rfl) ?_
                            refine Eq.trans (jr_s (pc2 := 3) (lv2 := [(0, .ref 117), (1, .int 24)]) (st2 := [.long 0, .long 24]) jF_267_2 rfl rfl) ?_
                            refine Eq.trans (jr_s (pc2 := 6) (lv2 := [(0, .ref 117), (1, .int 24)]) (st2 := [.long 17, .long 0, .long 24]) jF_267_3 rfl rfl) ?_
                            refine Eq.trans (jr_cS (as := [.long 24, .long 0, .long 17]) (rest := []) (v := some (.int 0)) (hp2 := jh2) (fr2 := 498) (lo2 := 19954) jF_267_6 rfl (show j_cnd 499 19979 498 19954 6 _ _ = true from rfl) ?_) ?_
                            · refine Eq.trans (jr_s (pc2 := 1) (lv2 := [(0, .long 24), (2, .long 0), (4, .long 17)]) (st2 := [.long 24]) jF_232_0 rfl rfl) ?_
                              refine Eq.trans (jr_s (pc2 := 2) (lv2 := [(0, .long 24), (2, .long 0), (4, .long 17)]) (st2 := [.long 0, .long 24]) jF_232_1 rfl rfl) ?_
                              refine Eq.trans (jr_s (pc2 := 3) (lv2 := [(0, .long 24), (2, .long 0), (4, .long 17)]) (st2 := [.int 1]) jF_232_2 rfl rfl) ?_
                              refine Eq.trans (jr_if0 jF_232_3 (by decide +kernel)) ?_
                              refine Eq.trans (jr_s (pc2 := 7) (lv2 := [(0, .long 24), (2, .long 0), (4, .long 17)]) (st2 := [.long 24]) jF_232_6 rfl rfl) ?_
                              refine Eq.trans (jr_s (pc2 := 9) (lv2 := [(0, .long 24), (2, .long 0), (4, .long 17)]) (st2 := [.long 17, .long 24]) jF_232_7 rfl rfl) ?_
                              refine Eq.trans (jr_s (pc2 := 10) (lv2 := [(0, .long 24), (2, .long 0), (4, .long 17)]) (st2 := [.int 1]) jF_232_9 rfl rfl) ?_
                              refine Eq.trans (jr_if1 jF_232_10 (by decide +kernel)) ?_
                              refine Eq.trans (jr_s (pc2 := 18) (lv2 := [(0, .long 24), (2, .long 0), (4, .long 17)]) (st2 := [.int 0]) jF_232_17 rfl rfl) ?_
                              exact jr_ri jF_232_18 rfl
                            refine Eq.trans (jr_if1 jF_267_9 (by decide +kernel)) ?_
                            refine Eq.trans (jr_s (pc2 := 23) (lv2 := [(0, .ref 117), (1, .int 24)]) (st2 := [.int 24]) jF_267_22 rfl rfl) ?_
                            refine Eq.trans (jr_s (pc2 := 25) (lv2 := [(0, .ref 117), (1, .int 24)]) (st2 := [.int 20, .int 24]) jF_267_23 rfl rfl) ?_
                            refine Eq.trans (jr_s (pc2 := 26) (lv2 := [(0, .ref 117), (1, .int 24)]) (st2 := [.int 4]) jF_267_25 rfl rfl) ?_
                            refine Eq.trans (jr_s (pc2 := 27) (lv2 := [(0, .ref 117), (1, .int 24)]) (st2 := [.long 4]) jF_267_26 rfl rfl) ?_
                            refine Eq.trans (jr_s (pc2 := 28) (lv2 := [(0, .ref 117), (1, .int 24)]) (st2 := [.long 0, .long 4]) jF_267_27 rfl rfl) ?_
                            refine Eq.trans (jr_s (pc2 := 29) (lv2 := [(0, .ref 117), (1, .int 24)]) (st2 := [.ref 117, .long 0, .long 4]) jF_267_28 rfl rfl) ?_
                            refine Eq.trans (jr_gf (v := .int 0) jF_267_29 (by decide +kernel)) ?_
                            refine Eq.trans (jr_s (pc2 := 33) (lv2 := [(0, .ref 117), (1, .int 24)]) (st2 := [.int 1, .int 0, .long 0, .long 4]) jF_267_32 rfl rfl) ?_
                            refine Eq.trans (jr_s (pc2 := 34) (lv2 := [(0, .ref 117), (1, .int 24)]) (st2 := [.int (-1), .long 0, .long 4]) jF_267_33 rfl rfl) ?_
                            refine Eq.trans (jr_s (pc2 := 35) (lv2 := [(0, .ref 117), (1, .int 24)]) (st2 := [.long (-1), .long 0, .long 4]) jF_267_34 rfl rfl) ?_
                            refine Eq.trans (jr_cS (as := [.long 4, .long 0, .long (-1)]) (rest := []) (v := some (.int 0)) (hp2 := jh2) (fr2 := 498) (lo2 := 19954) jF_267_35 rfl (show j_cnd 499 19979 498 19954 6 _ _ = true from rfl) ?_) ?_
                            · refine Eq.trans (jr_s (pc2 := 1) (lv2 := [(0, .long 4), (2, .long 0), (4, .long (-1))]) (st2 := [.long 4]) jF_232_0 rfl rfl) ?_
                              refine Eq.trans (jr_s (pc2 := 2) (lv2 := [(0, .long 4), (2, .long 0), (4, .long (-1))]) (st2 := [.long 0, .long 4]) jF_232_1 rfl rfl) ?_
                              refine Eq.trans (jr_s (pc2 := 3) (lv2 := [(0, .long 4), (2, .long 0), (4, .long (-1))]) (st2 := [.int 1]) jF_232_2 rfl rfl) ?_
                              refine Eq.trans (jr_if0 jF_232_3 (by decide +kernel)) ?_
                              refine Eq.trans (jr_s (pc2 := 7) (lv2 := [(0, .long 4), (2, .long 0), (4, .long (-1))]) (st2 := [.long 4]) jF_232_6 rfl rfl) ?_
                              refine Eq.trans (jr_s (pc2 := 9) (lv2 := [(0, .long 4), (2, .long 0), (4, .long (-1))]) (st2 := [.long (-1), .long 4]) jF_232_7 rfl rfl) ?_
                              refine Eq.trans (jr_s (pc2 := 10) (lv2 := [(0, .long 4), (2, .long 0), (4, .long (-1))]) (st2 := [.int 1]) jF_232_9 rfl rfl) ?_
                              refine Eq.trans (jr_if1 jF_232_10 (by decide +kernel)) ?_
                              refine Eq.trans (jr_s (pc2 := 18) (lv2 := [(0, .long 4), (2, .long 0), (4, .long (-1))]) (st2 := [.int 0]) jF_232_17 rfl rfl) ?_
                              exact jr_ri jF_232_18 rfl
                            refine Eq.trans (jr_if1 jF_267_38 (by decide +kernel)) ?_
                            refine Eq.trans (jr_s (pc2 := 56) (lv2 := [(0, .ref 117), (1, .int 24)]) (st2 := [.long 0]) jF_267_55 rfl rfl) ?_
                            exact jr_rl jF_267_56
                          refine Eq.trans (jr_s (pc2 := 6) (lv2 := [(3, .long 0), (0, .ref 117), (1, .int 24), (2, .int a2)]) (st2 := []) jF_266_5 rfl rfl) ?_
                          refine Eq.trans (jr_s (pc2 := 7) (lv2 := [(3, .long 0), (0, .ref 117), (1, .int 24), (2, .int a2)]) (st2 := [.long 0]) jF_266_6 rfl rfl) ?_
                          refine Eq.trans (jr_s (pc2 := 8) (lv2 := [(3, .long 0), (0, .ref 117), (1, .int 24), (2, .int a2)]) (st2 := [.long 0, .long 0]) jF_266_7 rfl rfl) ?_
                          refine Eq.trans (jr_s (pc2 := 9) (lv2 := [(3, .long 0), (0, .ref 117), (1, .int 24), (2, .int a2)]) (st2 := [.int 0]) jF_266_8 rfl rfl) ?_
                          refine Eq.trans (jr_if1 jF_266_9 (by decide +kernel)) ?_
                          refine Eq.trans (jr_s (pc2 := 25) (lv2 := [(3, .long 0), (0, .ref 117), (1, .int 24), (2, .int a2)]) (st2 := [.int (-1)]) jF_266_24 rfl rfl) ?_
                          exact jr_ri jF_266_25 rfl
    · refine ⟨60000, 60000, (-1), jh2, jh2, ?_, ?_, by decide +kernel⟩
      · refine Eq.trans (jr_s (pc2 := 1) (lv2 := [(0, .ref 9), (1, .int a1), (2, .int a2)]) (st2 := [.ref 9]) jF_92_0 rfl rfl) ?_
        refine Eq.trans (jr_gf (v := .ref 20) jF_92_1 (by decide +kernel)) ?_
        refine Eq.trans (jr_s (pc2 := 5) (lv2 := [(0, .ref 9), (1, .int a1), (2, .int a2)]) (st2 := [.int a1, .ref 20]) jF_92_4 rfl rfl) ?_
        refine Eq.trans (jr_s (pc2 := 6) (lv2 := [(0, .ref 9), (1, .int a1), (2, .int a2)]) (st2 := [.int a2, .int a1, .ref 20]) jF_92_5 rfl rfl) ?_
        refine Eq.trans (jr_cV (a := 20) (as := [.int a1, .int a2]) (rest := []) (v := some (.int (-1))) (hp2 := jh2) (fr2 := 499) (lo2 := 19978) jF_92_6 (by decide +kernel) rfl (show j_cnd 500 20000 499 19978 3 _ _ = true from rfl) ?_) ?_
        · refine Eq.trans (jr_s (pc2 := 1) (lv2 := [(0, .ref 20), (1, .int a1), (2, .int a2)]) (st2 := [.int a1]) jF_93_0 rfl rfl) ?_
          refine Eq.trans (jr_if0 jF_93_1 (jk_lt_ge (show (0 : Int32).toInt ≤ (a1 : Int32).toInt by rw [show (0 : Int32).toInt = 0 from by decide]; omega))) ?_
          refine Eq.trans (jr_s (pc2 := 5) (lv2 := [(0, .ref 20), (1, .int a1), (2, .int a2)]) (st2 := [.int a1]) jF_93_4 rfl rfl) ?_
          refine Eq.trans (jr_s (pc2 := 6) (lv2 := [(0, .ref 20), (1, .int a1), (2, .int a2)]) (st2 := [.ref 20, .int a1]) jF_93_5 rfl rfl) ?_
          refine Eq.trans (jr_gf (v := .ref 21) jF_93_6 (by decide +kernel)) ?_
          refine Eq.trans (jr_al (v := 25) jF_93_9 (by decide +kernel)) ?_
          refine Eq.trans (jr_ic1 jF_93_10 (jk_ge_ge (show (25 : Int32).toInt ≤ (a1 : Int32).toInt by rw [show (25 : Int32).toInt = 25 from by decide]; omega))) ?_
          refine Eq.trans (jr_s (pc2 := 33) (lv2 := [(0, .ref 20), (1, .int a1), (2, .int a2)]) (st2 := [.int (-1)]) jF_93_32 rfl rfl) ?_
          exact jr_ri jF_93_33 rfl
        exact jr_ri jF_92_9 rfl
      · refine Eq.trans (jr_s (pc2 := 1) (lv2 := [(0, .ref 117), (1, .int a1), (2, .int a2)]) (st2 := [.ref 117]) jF_266_0 rfl rfl) ?_
        refine Eq.trans (jr_s (pc2 := 2) (lv2 := [(0, .ref 117), (1, .int a1), (2, .int a2)]) (st2 := [.int a1, .ref 117]) jF_266_1 rfl rfl) ?_
        refine Eq.trans (jr_cV (a := 117) (as := [.int a1]) (rest := []) (v := some (.long 0)) (hp2 := jh2) (fr2 := 499) (lo2 := 19979) jF_266_2 (by decide +kernel) rfl (show j_cnd 500 20000 499 19979 2 _ _ = true from rfl) ?_) ?_
        · refine Eq.trans (jr_s (pc2 := 1) (lv2 := [(0, .ref 117), (1, .int a1)]) (st2 := [.int a1]) jF_267_0 rfl rfl) ?_
          refine Eq.trans (jr_s (pc2 := 2) (lv2 := [(0, .ref 117), (1, .int a1)]) (st2 := [.long (Int32.toInt64 a1)]) jF_267_1 rfl rfl) ?_
          refine Eq.trans (jr_s (pc2 := 3) (lv2 := [(0, .ref 117), (1, .int a1)]) (st2 := [.long 0, .long (Int32.toInt64 a1)]) jF_267_2 rfl rfl) ?_
          refine Eq.trans (jr_s (pc2 := 6) (lv2 := [(0, .ref 117), (1, .int a1)]) (st2 := [.long 17, .long 0, .long (Int32.toInt64 a1)]) jF_267_3 rfl rfl) ?_
          refine Eq.trans (jr_cS (as := [.long (Int32.toInt64 a1), .long 0, .long 17]) (rest := []) (v := some (.int 0)) (hp2 := jh2) (fr2 := 498) (lo2 := 19954) jF_267_6 rfl (show j_cnd 499 19979 498 19954 6 _ _ = true from rfl) ?_) ?_
          · refine Eq.trans (jr_s (pc2 := 1) (lv2 := [(0, .long (Int32.toInt64 a1)), (2, .long 0), (4, .long 17)]) (st2 := [.long (Int32.toInt64 a1)]) jF_232_0 rfl rfl) ?_
            refine Eq.trans (jr_s (pc2 := 2) (lv2 := [(0, .long (Int32.toInt64 a1)), (2, .long 0), (4, .long 17)]) (st2 := [.long 0, .long (Int32.toInt64 a1)]) jF_232_1 rfl rfl) ?_
            refine Eq.trans (jr_s (pc2 := 3) (lv2 := [(0, .long (Int32.toInt64 a1)), (2, .long 0), (4, .long 17)]) (st2 := [.int (lg_cmp (Int32.toInt64 a1) 0)]) jF_232_2 rfl rfl) ?_
            refine Eq.trans (jr_if0 jF_232_3 (jkl_lt_ge (show (0 : Int64).toInt ≤ ((Int32.toInt64 a1) : Int64).toInt by rw [Int32.toInt_toInt64, show (0 : Int64).toInt = 0 from by decide]; omega))) ?_
            refine Eq.trans (jr_s (pc2 := 7) (lv2 := [(0, .long (Int32.toInt64 a1)), (2, .long 0), (4, .long 17)]) (st2 := [.long (Int32.toInt64 a1)]) jF_232_6 rfl rfl) ?_
            refine Eq.trans (jr_s (pc2 := 9) (lv2 := [(0, .long (Int32.toInt64 a1)), (2, .long 0), (4, .long 17)]) (st2 := [.long 17, .long (Int32.toInt64 a1)]) jF_232_7 rfl rfl) ?_
            refine Eq.trans (jr_s (pc2 := 10) (lv2 := [(0, .long (Int32.toInt64 a1)), (2, .long 0), (4, .long 17)]) (st2 := [.int (lg_cmp (Int32.toInt64 a1) 17)]) jF_232_9 rfl rfl) ?_
            refine Eq.trans (jr_if1 jF_232_10 (jkl_gt_gt (show (17 : Int64).toInt < ((Int32.toInt64 a1) : Int64).toInt by rw [Int32.toInt_toInt64, show (17 : Int64).toInt = 17 from by decide]; omega))) ?_
            refine Eq.trans (jr_s (pc2 := 18) (lv2 := [(0, .long (Int32.toInt64 a1)), (2, .long 0), (4, .long 17)]) (st2 := [.int 0]) jF_232_17 rfl rfl) ?_
            exact jr_ri jF_232_18 rfl
          refine Eq.trans (jr_if1 jF_267_9 (by decide +kernel)) ?_
          refine Eq.trans (jr_s (pc2 := 23) (lv2 := [(0, .ref 117), (1, .int a1)]) (st2 := [.int a1]) jF_267_22 rfl rfl) ?_
          refine Eq.trans (jr_s (pc2 := 25) (lv2 := [(0, .ref 117), (1, .int a1)]) (st2 := [.int 20, .int a1]) jF_267_23 rfl rfl) ?_
          refine Eq.trans (jr_s (pc2 := 26) (lv2 := [(0, .ref 117), (1, .int a1)]) (st2 := [.int (a1 - 20)]) jF_267_25 rfl rfl) ?_
          refine Eq.trans (jr_s (pc2 := 27) (lv2 := [(0, .ref 117), (1, .int a1)]) (st2 := [.long (Int32.toInt64 (a1 - 20))]) jF_267_26 rfl rfl) ?_
          refine Eq.trans (jr_s (pc2 := 28) (lv2 := [(0, .ref 117), (1, .int a1)]) (st2 := [.long 0, .long (Int32.toInt64 (a1 - 20))]) jF_267_27 rfl rfl) ?_
          refine Eq.trans (jr_s (pc2 := 29) (lv2 := [(0, .ref 117), (1, .int a1)]) (st2 := [.ref 117, .long 0, .long (Int32.toInt64 (a1 - 20))]) jF_267_28 rfl rfl) ?_
          refine Eq.trans (jr_gf (v := .int 0) jF_267_29 (by decide +kernel)) ?_
          refine Eq.trans (jr_s (pc2 := 33) (lv2 := [(0, .ref 117), (1, .int a1)]) (st2 := [.int 1, .int 0, .long 0, .long (Int32.toInt64 (a1 - 20))]) jF_267_32 rfl rfl) ?_
          refine Eq.trans (jr_s (pc2 := 34) (lv2 := [(0, .ref 117), (1, .int a1)]) (st2 := [.int (-1), .long 0, .long (Int32.toInt64 (a1 - 20))]) jF_267_33 rfl rfl) ?_
          refine Eq.trans (jr_s (pc2 := 35) (lv2 := [(0, .ref 117), (1, .int a1)]) (st2 := [.long (-1), .long 0, .long (Int32.toInt64 (a1 - 20))]) jF_267_34 rfl rfl) ?_
          refine Eq.trans (jr_cS (as := [.long (Int32.toInt64 (a1 - 20)), .long 0, .long (-1)]) (rest := []) (v := some (.int 0)) (hp2 := jh2) (fr2 := 498) (lo2 := 19954) jF_267_35 rfl (show j_cnd 499 19979 498 19954 6 _ _ = true from rfl) ?_) ?_
          · refine Eq.trans (jr_s (pc2 := 1) (lv2 := [(0, .long (Int32.toInt64 (a1 - 20))), (2, .long 0), (4, .long (-1))]) (st2 := [.long (Int32.toInt64 (a1 - 20))]) jF_232_0 rfl rfl) ?_
            refine Eq.trans (jr_s (pc2 := 2) (lv2 := [(0, .long (Int32.toInt64 (a1 - 20))), (2, .long 0), (4, .long (-1))]) (st2 := [.long 0, .long (Int32.toInt64 (a1 - 20))]) jF_232_1 rfl rfl) ?_
            refine Eq.trans (jr_s (pc2 := 3) (lv2 := [(0, .long (Int32.toInt64 (a1 - 20))), (2, .long 0), (4, .long (-1))]) (st2 := [.int (lg_cmp (Int32.toInt64 (a1 - 20)) 0)]) jF_232_2 rfl rfl) ?_
            refine Eq.trans (jr_if0 jF_232_3 (jkl_lt_ge (show (0 : Int64).toInt ≤ ((Int32.toInt64 (a1 - 20)) : Int64).toInt by rw [Int32.toInt_toInt64, jo_sub (x := a1) (k := 20) (n := 20) (by decide) (by omega) (by omega), show (0 : Int64).toInt = 0 from by decide]; omega))) ?_
            refine Eq.trans (jr_s (pc2 := 7) (lv2 := [(0, .long (Int32.toInt64 (a1 - 20))), (2, .long 0), (4, .long (-1))]) (st2 := [.long (Int32.toInt64 (a1 - 20))]) jF_232_6 rfl rfl) ?_
            refine Eq.trans (jr_s (pc2 := 9) (lv2 := [(0, .long (Int32.toInt64 (a1 - 20))), (2, .long 0), (4, .long (-1))]) (st2 := [.long (-1), .long (Int32.toInt64 (a1 - 20))]) jF_232_7 rfl rfl) ?_
            refine Eq.trans (jr_s (pc2 := 10) (lv2 := [(0, .long (Int32.toInt64 (a1 - 20))), (2, .long 0), (4, .long (-1))]) (st2 := [.int (lg_cmp (Int32.toInt64 (a1 - 20)) (-1))]) jF_232_9 rfl rfl) ?_
            refine Eq.trans (jr_if1 jF_232_10 (jkl_gt_gt (show ((-1) : Int64).toInt < ((Int32.toInt64 (a1 - 20)) : Int64).toInt by rw [Int32.toInt_toInt64, jo_sub (x := a1) (k := 20) (n := 20) (by decide) (by omega) (by omega), show ((-1) : Int64).toInt = (-1) from by decide]; omega))) ?_
            refine Eq.trans (jr_s (pc2 := 18) (lv2 := [(0, .long (Int32.toInt64 (a1 - 20))), (2, .long 0), (4, .long (-1))]) (st2 := [.int 0]) jF_232_17 rfl rfl) ?_
            exact jr_ri jF_232_18 rfl
          refine Eq.trans (jr_if1 jF_267_38 (by decide +kernel)) ?_
          refine Eq.trans (jr_s (pc2 := 56) (lv2 := [(0, .ref 117), (1, .int a1)]) (st2 := [.long 0]) jF_267_55 rfl rfl) ?_
          exact jr_rl jF_267_56
        refine Eq.trans (jr_s (pc2 := 6) (lv2 := [(3, .long 0), (0, .ref 117), (1, .int a1), (2, .int a2)]) (st2 := []) jF_266_5 rfl rfl) ?_
        refine Eq.trans (jr_s (pc2 := 7) (lv2 := [(3, .long 0), (0, .ref 117), (1, .int a1), (2, .int a2)]) (st2 := [.long 0]) jF_266_6 rfl rfl) ?_
        refine Eq.trans (jr_s (pc2 := 8) (lv2 := [(3, .long 0), (0, .ref 117), (1, .int a1), (2, .int a2)]) (st2 := [.long 0, .long 0]) jF_266_7 rfl rfl) ?_
        refine Eq.trans (jr_s (pc2 := 9) (lv2 := [(3, .long 0), (0, .ref 117), (1, .int a1), (2, .int a2)]) (st2 := [.int 0]) jF_266_8 rfl rfl) ?_
        refine Eq.trans (jr_if1 jF_266_9 (by decide +kernel)) ?_
        refine Eq.trans (jr_s (pc2 := 25) (lv2 := [(3, .long 0), (0, .ref 117), (1, .int a1), (2, .int a2)]) (st2 := [.int (-1)]) jF_266_24 rfl rfl) ?_
        exact jr_ri jF_266_25 rfl
