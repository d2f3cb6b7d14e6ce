set_option maxHeartbeats 8000000 in
set_option maxRecDepth 100000 in
theorem pm_feed (a1 a2 a3 a4 a5 : Int32) : PM 24 212 [.int a1, .int a2, .int a3, .int a4, .int a5] := by
  have ub_a1 := Int32.toInt_lt a1
  have lb_a1 := Int32.le_toInt a1
  have ub_a2 := Int32.toInt_lt a2
  have lb_a2 := Int32.le_toInt a2
  have ub_a3 := Int32.toInt_lt a3
  have lb_a3 := Int32.le_toInt a3
  have ub_a4 := Int32.toInt_lt a4
  have lb_a4 := Int32.le_toInt a4
  have ub_a5 := Int32.toInt_lt a5
  have lb_a5 := Int32.le_toInt a5
  refine ⟨60000, 60000, 20, (j_stf (j_stf (j_stf (j_stf (j_stf (j_stf (j_stf (j_stf (j_stf (j_stf (j_stf (j_stf (j_stf (j_stf (j_stf (j_stf (j_stf (j_stf (j_stf (j_stf (j_stf (j_stf (j_stf (j_stf (j_stf (j_stf (j_stf (j_stf (j_stf (j_stf (j_stf (j_stf (j_stf (j_stf (j_stf (j_stf (j_stf (j_stf (j_stf (j_stf jh2 11 0 (.int (((Int32.toUInt32 a1) >>> ((Int32.toUInt32 24) &&& Int32.toUInt32 31)).toInt32 &&& 255))) 10 1 (.int 1)) 11 1 (.int (((Int32.toUInt32 a1) >>> ((Int32.toUInt32 16) &&& Int32.toUInt32 31)).toInt32 &&& 255))) 10 1 (.int 2)) 11 2 (.int (((Int32.toUInt32 a1) >>> ((Int32.toUInt32 8) &&& Int32.toUInt32 31)).toInt32 &&& 255))) 10 1 (.int 3)) 11 3 (.int (((Int32.toUInt32 a1) >>> ((Int32.toUInt32 0) &&& Int32.toUInt32 31)).toInt32 &&& 255))) 10 1 (.int 4)) 11 4 (.int (((Int32.toUInt32 a2) >>> ((Int32.toUInt32 24) &&& Int32.toUInt32 31)).toInt32 &&& 255))) 10 1 (.int 5)) 11 5 (.int (((Int32.toUInt32 a2) >>> ((Int32.toUInt32 16) &&& Int32.toUInt32 31)).toInt32 &&& 255))) 10 1 (.int 6)) 11 6 (.int (((Int32.toUInt32 a2) >>> ((Int32.toUInt32 8) &&& Int32.toUInt32 31)).toInt32 &&& 255))) 10 1 (.int 7)) 11 7 (.int (((Int32.toUInt32 a2) >>> ((Int32.toUInt32 0) &&& Int32.toUInt32 31)).toInt32 &&& 255))) 10 1 (.int 8)) 11 8 (.int (((Int32.toUInt32 a3) >>> ((Int32.toUInt32 24) &&& Int32.toUInt32 31)).toInt32 &&& 255))) 10 1 (.int 9)) 11 9 (.int (((Int32.toUInt32 a3) >>> ((Int32.toUInt32 16) &&& Int32.toUInt32 31)).toInt32 &&& 255))) 10 1 (.int 10)) 11 10 (.int (((Int32.toUInt32 a3) >>> ((Int32.toUInt32 8) &&& Int32.toUInt32 31)).toInt32 &&& 255))) 10 1 (.int 11)) 11 11 (.int (((Int32.toUInt32 a3) >>> ((Int32.toUInt32 0) &&& Int32.toUInt32 31)).toInt32 &&& 255))) 10 1 (.int 12)) 11 12 (.int (((Int32.toUInt32 a4) >>> ((Int32.toUInt32 24) &&& Int32.toUInt32 31)).toInt32 &&& 255))) 10 1 (.int 13)) 11 13 (.int (((Int32.toUInt32 a4) >>> ((Int32.toUInt32 16) &&& Int32.toUInt32 31)).toInt32 &&& 255))) 10 1 (.int 14)) 11 14 (.int (((Int32.toUInt32 a4) >>> ((Int32.toUInt32 8) &&& Int32.toUInt32 31)).toInt32 &&& 255))) 10 1 (.int 15)) 11 15 (.int (((Int32.toUInt32 a4) >>> ((Int32.toUInt32 0) &&& Int32.toUInt32 31)).toInt32 &&& 255))) 10 1 (.int 16)) 11 16 (.int (((Int32.toUInt32 a5) >>> ((Int32.toUInt32 24) &&& Int32.toUInt32 31)).toInt32 &&& 255))) 10 1 (.int 17)) 11 17 (.int (((Int32.toUInt32 a5) >>> ((Int32.toUInt32 16) &&& Int32.toUInt32 31)).toInt32 &&& 255))) 10 1 (.int 18)) 11 18 (.int (((Int32.toUInt32 a5) >>> ((Int32.toUInt32 8) &&& Int32.toUInt32 31)).toInt32 &&& 255))) 10 1 (.int 19)) 11 19 (.int (((Int32.toUInt32 a5) >>> ((Int32.toUInt32 0) &&& Int32.toUInt32 31)).toInt32 &&& 255))) 10 1 (.int 20)), (j_stf (j_stf (j_stf (j_stf (j_stf (j_stf (j_stf (j_stf (j_stf (j_stf (j_stf (j_stf (j_stf (j_stf (j_stf (j_stf (j_stf (j_stf (j_stf (j_stf (j_stf (j_stf (j_stf (j_stf (j_stf (j_stf (j_stf (j_stf (j_stf (j_stf (j_stf (j_stf (j_stf (j_stf (j_stf (j_stf (j_stf (j_stf (j_stf (j_stf (j_stf (j_stf (j_stf (j_stf (j_stf (j_stf (j_stf (j_stf (j_stf (j_stf (j_stf (j_stf (j_stf (j_stf (j_stf (j_stf (j_stf (j_stf (j_stf (j_stf (j_stf (j_stf (j_stf (j_stf (j_stf (j_stf (j_stf (j_stf (j_stf (j_stf (j_stf (j_stf (j_stf (j_stf (j_stf (j_stf (j_stf (j_stf (j_stf (j_stf jh2 11 0 (.int (((Int32.toUInt32 a1) >>> ((Int32.toUInt32 24) &&& Int32.toUInt32 31)).toInt32 &&& 255))) 10 1 (.int 1)) 11 1 (.int (((Int32.toUInt32 a1) >>> ((Int32.toUInt32 16) &&& Int32.toUInt32 31)).toInt32 &&& 255))) 10 1 (.int 2)) 11 2 (.int (((Int32.toUInt32 a1) >>> ((Int32.toUInt32 8) &&& Int32.toUInt32 31)).toInt32 &&& 255))) 10 1 (.int 3)) 11 3 (.int (((Int32.toUInt32 a1) >>> ((Int32.toUInt32 0) &&& Int32.toUInt32 31)).toInt32 &&& 255))) 10 1 (.int 4)) 11 4 (.int (((Int32.toUInt32 a2) >>> ((Int32.toUInt32 24) &&& Int32.toUInt32 31)).toInt32 &&& 255))) 10 1 (.int 5)) 11 5 (.int (((Int32.toUInt32 a2) >>> ((Int32.toUInt32 16) &&& Int32.toUInt32 31)).toInt32 &&& 255))) 10 1 (.int 6)) 11 6 (.int (((Int32.toUInt32 a2) >>> ((Int32.toUInt32 8) &&& Int32.toUInt32 31)).toInt32 &&& 255))) 10 1 (.int 7)) 11 7 (.int (((Int32.toUInt32 a2) >>> ((Int32.toUInt32 0) &&& Int32.toUInt32 31)).toInt32 &&& 255))) 10 1 (.int 8)) 11 8 (.int (((Int32.toUInt32 a3) >>> ((Int32.toUInt32 24) &&& Int32.toUInt32 31)).toInt32 &&& 255))) 10 1 (.int 9)) 11 9 (.int (((Int32.toUInt32 a3) >>> ((Int32.toUInt32 16) &&& Int32.toUInt32 31)).toInt32 &&& 255))) 10 1 (.int 10)) 11 10 (.int (((Int32.toUInt32 a3) >>> ((Int32.toUInt32 8) &&& Int32.toUInt32 31)).toInt32 &&& 255))) 10 1 (.int 11)) 11 11 (.int (((Int32.toUInt32 a3) >>> ((Int32.toUInt32 0) &&& Int32.toUInt32 31)).toInt32 &&& 255))) 10 1 (.int 12)) 11 12 (.int (((Int32.toUInt32 a4) >>> ((Int32.toUInt32 24) &&& Int32.toUInt32 31)).toInt32 &&& 255))) 10 1 (.int 13)) 11 13 (.int (((Int32.toUInt32 a4) >>> ((Int32.toUInt32 16) &&& Int32.toUInt32 31)).toInt32 &&& 255))) 10 1 (.int 14)) 11 14 (.int (((Int32.toUInt32 a4) >>> ((Int32.toUInt32 8) &&& Int32.toUInt32 31)).toInt32 &&& 255))) 10 1 (.int 15)) 11 15 (.int (((Int32.toUInt32 a4) >>> ((Int32.toUInt32 0) &&& Int32.toUInt32 31)).toInt32 &&& 255))) 10 1 (.int 16)) 11 16 (.int (((Int32.toUInt32 a5) >>> ((Int32.toUInt32 24) &&& Int32.toUInt32 31)).toInt32 &&& 255))) 10 1 (.int 17)) 11 17 (.int (((Int32.toUInt32 a5) >>> ((Int32.toUInt32 16) &&& Int32.toUInt32 31)).toInt32 &&& 255))) 10 1 (.int 18)) 11 18 (.int (((Int32.toUInt32 a5) >>> ((Int32.toUInt32 8) &&& Int32.toUInt32 31)).toInt32 &&& 255))) 10 1 (.int 19)) 11 19 (.int (((Int32.toUInt32 a5) >>> ((Int32.toUInt32 0) &&& Int32.toUInt32 31)).toInt32 &&& 255))) 10 1 (.int 20)) 118 0 (.int ((a1 >>> ((24 : Int32) &&& 31)) &&& 255))) 117 1 (.int 1)) 118 1 (.int ((a1 >>> ((16 : Int32) &&& 31)) &&& 255))) 117 1 (.int 2)) 118 2 (.int ((a1 >>> ((8 : Int32) &&& 31)) &&& 255))) 117 1 (.int 3)) 118 3 (.int ((a1 >>> ((0 : Int32) &&& 31)) &&& 255))) 117 1 (.int 4)) 118 4 (.int ((a2 >>> ((24 : Int32) &&& 31)) &&& 255))) 117 1 (.int 5)) 118 5 (.int ((a2 >>> ((16 : Int32) &&& 31)) &&& 255))) 117 1 (.int 6)) 118 6 (.int ((a2 >>> ((8 : Int32) &&& 31)) &&& 255))) 117 1 (.int 7)) 118 7 (.int ((a2 >>> ((0 : Int32) &&& 31)) &&& 255))) 117 1 (.int 8)) 118 8 (.int ((a3 >>> ((24 : Int32) &&& 31)) &&& 255))) 117 1 (.int 9)) 118 9 (.int ((a3 >>> ((16 : Int32) &&& 31)) &&& 255))) 117 1 (.int 10)) 118 10 (.int ((a3 >>> ((8 : Int32) &&& 31)) &&& 255))) 117 1 (.int 11)) 118 11 (.int ((a3 >>> ((0 : Int32) &&& 31)) &&& 255))) 117 1 (.int 12)) 118 12 (.int ((a4 >>> ((24 : Int32) &&& 31)) &&& 255))) 117 1 (.int 13)) 118 13 (.int ((a4 >>> ((16 : Int32) &&& 31)) &&& 255))) 117 1 (.int 14)) 118 14 (.int ((a4 >>> ((8 : Int32) &&& 31)) &&& 255))) 117 1 (.int 15)) 118 15 (.int ((a4 >>> ((0 : Int32) &&& 31)) &&& 255))) 117 1 (.int 16)) 118 16 (.int ((a5 >>> ((24 : Int32) &&& 31)) &&& 255))) 117 1 (.int 17)) 118 17 (.int ((a5 >>> ((16 : Int32) &&& 31)) &&& 255))) 117 1 (.int 18)) 118 18 (.int ((a5 >>> ((8 : Int32) &&& 31)) &&& 255))) 117 1 (.int 19)) 118 19 (.int ((a5 >>> ((0 : Int32) &&& 31)) &&& 255))) 117 1 (.int 20)), ?_, ?_, rfl⟩
  · refine Eq.trans (jr_s (pc2 := 1) (lv2 := [(0, .ref 9), (1, .int a1), (2, .int a2), (3, .int a3), (4, .int a4), (5, .int a5)]) (st2 := [.ref 9]) jF_24_0 rfl rfl) ?_
    refine Eq.trans (jr_gf (v := .ref 10) jF_24_1 (by decide +kernel)) ?_
    refine Eq.trans (jr_gf (v := .int 0) jF_24_4 (by decide +kernel)) ?_
    refine Eq.trans (jr_s (pc2 := 9) (lv2 := [(0, .ref 9), (1, .int a1), (2, .int a2), (3, .int a3), (4, .int a4), (5, .int a5)]) (st2 := [.int 20, .int 0]) jF_24_7 rfl rfl) ?_
    refine Eq.trans (jr_s (pc2 := 10) (lv2 := [(0, .ref 9), (1, .int a1), (2, .int a2), (3, .int a3), (4, .int a4), (5, .int a5)]) (st2 := [.int 20]) jF_24_9 rfl rfl) ?_
    refine Eq.trans (jr_s (pc2 := 13) (lv2 := [(0, .ref 9), (1, .int a1), (2, .int a2), (3, .int a3), (4, .int a4), (5, .int a5)]) (st2 := [.int 1600, .int 20]) jF_24_10 rfl rfl) ?_
    refine Eq.trans (jr_ic1 jF_24_13 (by decide +kernel)) ?_
    refine Eq.trans (jr_s (pc2 := 23) (lv2 := [(0, .ref 9), (1, .int a1), (2, .int a2), (3, .int a3), (4, .int a4), (5, .int a5)]) (st2 := [.ref 9]) jF_24_22 rfl rfl) ?_
    refine Eq.trans (jr_gf (v := .ref 10) jF_24_23 (by decide +kernel)) ?_
    refine Eq.trans (jr_s (pc2 := 27) (lv2 := [(0, .ref 9), (1, .int a1), (2, .int a2), (3, .int a3), (4, .int a4), (5, .int a5)]) (st2 := [.int a1, .ref 10]) jF_24_26 rfl rfl) ?_
    refine Eq.trans (jr_cV (a := 10) (as := [.int a1]) (rest := []) (v := none) (hp2 := (j_stf (j_stf (j_stf (j_stf (j_stf (j_stf (j_stf (j_stf jh2 11 0 (.int (((Int32.toUInt32 a1) >>> ((Int32.toUInt32 24) &&& Int32.toUInt32 31)).toInt32 &&& 255))) 10 1 (.int 1)) 11 1 (.int (((Int32.toUInt32 a1) >>> ((Int32.toUInt32 16) &&& Int32.toUInt32 31)).toInt32 &&& 255))) 10 1 (.int 2)) 11 2 (.int (((Int32.toUInt32 a1) >>> ((Int32.toUInt32 8) &&& Int32.toUInt32 31)).toInt32 &&& 255))) 10 1 (.int 3)) 11 3 (.int (((Int32.toUInt32 a1) >>> ((Int32.toUInt32 0) &&& Int32.toUInt32 31)).toInt32 &&& 255))) 10 1 (.int 4))) (fr2 := 499) (lo2 := 19978) jF_24_27 (by decide +kernel) rfl (show j_cnd 500 20000 499 19978 3 _ _ = true from rfl) ?_) ?_
    · refine Eq.trans (jr_s (pc2 := 2) (lv2 := [(0, .ref 10), (1, .int a1)]) (st2 := [.int 24]) jF_26_0 rfl rfl) ?_
      refine Eq.trans (jr_s (pc2 := 3) (lv2 := [(2, .int 24), (0, .ref 10), (1, .int a1)]) (st2 := []) jF_26_2 rfl rfl) ?_
      refine Eq.trans (jr_s (pc2 := 4) (lv2 := [(2, .int 24), (0, .ref 10), (1, .int a1)]) (st2 := [.int 24]) jF_26_3 rfl rfl) ?_
      refine Eq.trans (jr_if0 jF_26_4 (by decide +kernel)) ?_
      refine Eq.trans (jr_s (pc2 := 8) (lv2 := [(2, .int 24), (0, .ref 10), (1, .int a1)]) (st2 := [.ref 10]) jF_26_7 rfl rfl) ?_
      refine Eq.trans (jr_gf (v := .int 0) jF_26_8 (by decide +kernel)) ?_
      refine Eq.trans (jr_s (pc2 := 14) (lv2 := [(2, .int 24), (0, .ref 10), (1, .int a1)]) (st2 := [.int 1600, .int 0]) jF_26_11 rfl rfl) ?_
      refine Eq.trans (jr_ic0 jF_26_14 (by decide +kernel)) ?_
      refine Eq.trans (jr_s (pc2 := 18) (lv2 := [(2, .int 24), (0, .ref 10), (1, .int a1)]) (st2 := [.ref 10]) jF_26_17 rfl rfl) ?_
      refine Eq.trans (jr_gf (v := .ref 11) jF_26_18 (by decide +kernel)) ?_
      refine Eq.trans (jr_s (pc2 := 22) (lv2 := [(2, .int 24), (0, .ref 10), (1, .int a1)]) (st2 := [.ref 10, .ref 11]) jF_26_21 rfl rfl) ?_
      refine Eq.trans (jr_gf (v := .int 0) jF_26_22 (by decide +kernel)) ?_
      refine Eq.trans (jr_s (pc2 := 26) (lv2 := [(2, .int 24), (0, .ref 10), (1, .int a1)]) (st2 := [.int a1, .int 0, .ref 11]) jF_26_25 rfl rfl) ?_
      refine Eq.trans (jr_s (pc2 := 27) (lv2 := [(2, .int 24), (0, .ref 10), (1, .int a1)]) (st2 := [.int 24, .int a1, .int 0, .ref 11]) jF_26_26 rfl rfl) ?_
      refine Eq.trans (jr_s (pc2 := 28) (lv2 := [(2, .int 24), (0, .ref 10), (1, .int a1)]) (st2 := [.int ((Int32.toUInt32 a1) >>> ((Int32.toUInt32 24) &&& Int32.toUInt32 31)).toInt32, .int 0, .ref 11]) jF_26_27 rfl rfl) ?_
      refine Eq.trans (jr_s (pc2 := 31) (lv2 := [(2, .int 24), (0, .ref 10), (1, .int a1)]) (st2 := [.int 255, .int ((Int32.toUInt32 a1) >>> ((Int32.toUInt32 24) &&& Int32.toUInt32 31)).toInt32, .int 0, .ref 11]) jF_26_28 rfl rfl) ?_
      refine Eq.trans (jr_s (pc2 := 32) (lv2 := [(2, .int 24), (0, .ref 10), (1, .int a1)]) (st2 := [.int (((Int32.toUInt32 a1) >>> ((Int32.toUInt32 24) &&& Int32.toUInt32 31)).toInt32 &&& 255), .int 0, .ref 11]) jF_26_31 rfl rfl) ?_
      refine Eq.trans (jr_sti (q := 0) jF_26_32 (by decide +kernel) (by decide +kernel)) ?_
      refine Eq.trans (jr_s (pc2 := 34) (lv2 := [(2, .int 24), (0, .ref 10), (1, .int a1)]) (st2 := [.ref 10]) jF_26_33 rfl rfl) ?_
      refine Eq.trans (jr_s (pc2 := 35) (lv2 := [(2, .int 24), (0, .ref 10), (1, .int a1)]) (st2 := [.ref 10, .ref 10]) jF_26_34 rfl rfl) ?_
      refine Eq.trans (jr_gf (v := .int 0) jF_26_35 (rfl)) ?_
      refine Eq.trans (jr_s (pc2 := 39) (lv2 := [(2, .int 24), (0, .ref 10), (1, .int a1)]) (st2 := [.int 1, .int 0, .ref 10]) jF_26_38 rfl rfl) ?_
      refine Eq.trans (jr_s (pc2 := 40) (lv2 := [(2, .int 24), (0, .ref 10), (1, .int a1)]) (st2 := [.int 1, .ref 10]) jF_26_39 rfl rfl) ?_
      refine Eq.trans (jr_pf jF_26_40 (rfl) rfl) ?_
      refine Eq.trans (jr_s (pc2 := 46) (lv2 := [(2, .int 16), (0, .ref 10), (1, .int a1)]) (st2 := []) jF_26_43 rfl rfl) ?_
      refine Eq.trans (jr_s (pc2 := 3) (lv2 := [(2, .int 16), (0, .ref 10), (1, .int a1)]) (st2 := []) jF_26_46 rfl rfl) ?_
      refine Eq.trans (jr_s (pc2 := 4) (lv2 := [(2, .int 16), (0, .ref 10), (1, .int a1)]) (st2 := [.int 16]) jF_26_3 rfl rfl) ?_
      refine Eq.trans (jr_if0 jF_26_4 (by decide +kernel)) ?_
      refine Eq.trans (jr_s (pc2 := 8) (lv2 := [(2, .int 16), (0, .ref 10), (1, .int a1)]) (st2 := [.ref 10]) jF_26_7 rfl rfl) ?_
      refine Eq.trans (jr_gf (v := .int 1) jF_26_8 (rfl)) ?_
      refine Eq.trans (jr_s (pc2 := 14) (lv2 := [(2, .int 16), (0, .ref 10), (1, .int a1)]) (st2 := [.int 1600, .int 1]) jF_26_11 rfl rfl) ?_
      refine Eq.trans (jr_ic0 jF_26_14 (by decide +kernel)) ?_
      refine Eq.trans (jr_s (pc2 := 18) (lv2 := [(2, .int 16), (0, .ref 10), (1, .int a1)]) (st2 := [.ref 10]) jF_26_17 rfl rfl) ?_
      refine Eq.trans (jr_gf (v := .ref 11) jF_26_18 (rfl)) ?_
      refine Eq.trans (jr_s (pc2 := 22) (lv2 := [(2, .int 16), (0, .ref 10), (1, .int a1)]) (st2 := [.ref 10, .ref 11]) jF_26_21 rfl rfl) ?_
      refine Eq.trans (jr_gf (v := .int 1) jF_26_22 (rfl)) ?_
      refine Eq.trans (jr_s (pc2 := 26) (lv2 := [(2, .int 16), (0, .ref 10), (1, .int a1)]) (st2 := [.int a1, .int 1, .ref 11]) jF_26_25 rfl rfl) ?_
      refine Eq.trans (jr_s (pc2 := 27) (lv2 := [(2, .int 16), (0, .ref 10), (1, .int a1)]) (st2 := [.int 16, .int a1, .int 1, .ref 11]) jF_26_26 rfl rfl) ?_
      refine Eq.trans (jr_s (pc2 := 28) (lv2 := [(2, .int 16), (0, .ref 10), (1, .int a1)]) (st2 := [.int ((Int32.toUInt32 a1) >>> ((Int32.toUInt32 16) &&& Int32.toUInt32 31)).toInt32, .int 1, .ref 11]) jF_26_27 rfl rfl) ?_
      refine Eq.trans (jr_s (pc2 := 31) (lv2 := [(2, .int 16), (0, .ref 10), (1, .int a1)]) (st2 := [.int 255, .int ((Int32.toUInt32 a1) >>> ((Int32.toUInt32 16) &&& Int32.toUInt32 31)).toInt32, .int 1, .ref 11]) jF_26_28 rfl rfl) ?_
      refine Eq.trans (jr_s (pc2 := 32) (lv2 := [(2, .int 16), (0, .ref 10), (1, .int a1)]) (st2 := [.int (((Int32.toUInt32 a1) >>> ((Int32.toUInt32 16) &&& Int32.toUInt32 31)).toInt32 &&& 255), .int 1, .ref 11]) jF_26_31 rfl rfl) ?_
      refine Eq.trans (jr_sti (q := 1) jF_26_32 (rfl) (by decide +kernel)) ?_
      refine Eq.trans (jr_s (pc2 := 34) (lv2 := [(2, .int 16), (0, .ref 10), (1, .int a1)]) (st2 := [.ref 10]) jF_26_33 rfl rfl) ?_
      refine Eq.trans (jr_s (pc2 := 35) (lv2 := [(2, .int 16), (0, .ref 10), (1, .int a1)]) (st2 := [.ref 10, .ref 10]) jF_26_34 rfl rfl) ?_
      refine Eq.trans (jr_gf (v := .int 1) jF_26_35 (rfl)) ?_
      refine Eq.trans (jr_s (pc2 := 39) (lv2 := [(2, .int 16), (0, .ref 10), (1, .int a1)]) (st2 := [.int 1, .int 1, .ref 10]) jF_26_38 rfl rfl) ?_
      refine Eq.trans (jr_s (pc2 := 40) (lv2 := [(2, .int 16), (0, .ref 10), (1, .int a1)]) (st2 := [.int 2, .ref 10]) jF_26_39 rfl rfl) ?_
      refine Eq.trans (jr_pf jF_26_40 (rfl) rfl) ?_
      refine Eq.trans (jr_s (pc2 := 46) (lv2 := [(2, .int 8), (0, .ref 10), (1, .int a1)]) (st2 := []) jF_26_43 rfl rfl) ?_
      refine Eq.trans (jr_s (pc2 := 3) (lv2 := [(2, .int 8), (0, .ref 10), (1, .int a1)]) (st2 := []) jF_26_46 rfl rfl) ?_
      refine Eq.trans (jr_s (pc2 := 4) (lv2 := [(2, .int 8), (0, .ref 10), (1, .int a1)]) (st2 := [.int 8]) jF_26_3 rfl rfl) ?_
      refine Eq.trans (jr_if0 jF_26_4 (by decide +kernel)) ?_
      refine Eq.trans (jr_s (pc2 := 8) (lv2 := [(2, .int 8), (0, .ref 10), (1, .int a1)]) (st2 := [.ref 10]) jF_26_7 rfl rfl) ?_
      refine Eq.trans (jr_gf (v := .int 2) jF_26_8 (rfl)) ?_
      refine Eq.trans (jr_s (pc2 := 14) (lv2 := [(2, .int 8), (0, .ref 10), (1, .int a1)]) (st2 := [.int 1600, .int 2]) jF_26_11 rfl rfl) ?_
      refine Eq.trans (jr_ic0 jF_26_14 (by decide +kernel)) ?_
      refine Eq.trans (jr_s (pc2 := 18) (lv2 := [(2, .int 8), (0, .ref 10), (1, .int a1)]) (st2 := [.ref 10]) jF_26_17 rfl rfl) ?_
      refine Eq.trans (jr_gf (v := .ref 11) jF_26_18 (rfl)) ?_
      refine Eq.trans (jr_s (pc2 := 22) (lv2 := [(2, .int 8), (0, .ref 10), (1, .int a1)]) (st2 := [.ref 10, .ref 11]) jF_26_21 rfl rfl) ?_
      refine Eq.trans (jr_gf (v := .int 2) jF_26_22 (rfl)) ?_
      refine Eq.trans (jr_s (pc2 := 26) (lv2 := [(2, .int 8), (0, .ref 10), (1, .int a1)]) (st2 := [.int a1, .int 2, .ref 11]) jF_26_25 rfl rfl) ?_
      refine Eq.trans (jr_s (pc2 := 27) (lv2 := [(2, .int 8), (0, .ref 10), (1, .int a1)]) (st2 := [.int 8, .int a1, .int 2, .ref 11]) jF_26_26 rfl rfl) ?_
      refine Eq.trans (jr_s (pc2 := 28) (lv2 := [(2, .int 8), (0, .ref 10), (1, .int a1)]) (st2 := [.int ((Int32.toUInt32 a1) >>> ((Int32.toUInt32 8) &&& Int32.toUInt32 31)).toInt32, .int 2, .ref 11]) jF_26_27 rfl rfl) ?_
      refine Eq.trans (jr_s (pc2 := 31) (lv2 := [(2, .int 8), (0, .ref 10), (1, .int a1)]) (st2 := [.int 255, .int ((Int32.toUInt32 a1) >>> ((Int32.toUInt32 8) &&& Int32.toUInt32 31)).toInt32, .int 2, .ref 11]) jF_26_28 rfl rfl) ?_
      refine Eq.trans (jr_s (pc2 := 32) (lv2 := [(2, .int 8), (0, .ref 10), (1, .int a1)]) (st2 := [.int (((Int32.toUInt32 a1) >>> ((Int32.toUInt32 8) &&& Int32.toUInt32 31)).toInt32 &&& 255), .int 2, .ref 11]) jF_26_31 rfl rfl) ?_
      refine Eq.trans (jr_sti (q := 2) jF_26_32 (rfl) (by decide +kernel)) ?_
      refine Eq.trans (jr_s (pc2 := 34) (lv2 := [(2, .int 8), (0, .ref 10), (1, .int a1)]) (st2 := [.ref 10]) jF_26_33 rfl rfl) ?_
      refine Eq.trans (jr_s (pc2 := 35) (lv2 := [(2, .int 8), (0, .ref 10), (1, .int a1)]) (st2 := [.ref 10, .ref 10]) jF_26_34 rfl rfl) ?_
      refine Eq.trans (jr_gf (v := .int 2) jF_26_35 (rfl)) ?_
      refine Eq.trans (jr_s (pc2 := 39) (lv2 := [(2, .int 8), (0, .ref 10), (1, .int a1)]) (st2 := [.int 1, .int 2, .ref 10]) jF_26_38 rfl rfl) ?_
      refine Eq.trans (jr_s (pc2 := 40) (lv2 := [(2, .int 8), (0, .ref 10), (1, .int a1)]) (st2 := [.int 3, .ref 10]) jF_26_39 rfl rfl) ?_
      refine Eq.trans (jr_pf jF_26_40 (rfl) rfl) ?_
      refine Eq.trans (jr_s (pc2 := 46) (lv2 := [(2, .int 0), (0, .ref 10), (1, .int a1)]) (st2 := []) jF_26_43 rfl rfl) ?_
      refine Eq.trans (jr_s (pc2 := 3) (lv2 := [(2, .int 0), (0, .ref 10), (1, .int a1)]) (st2 := []) jF_26_46 rfl rfl) ?_
      refine Eq.trans (jr_s (pc2 := 4) (lv2 := [(2, .int 0), (0, .ref 10), (1, .int a1)]) (st2 := [.int 0]) jF_26_3 rfl rfl) ?_
      refine Eq.trans (jr_if0 jF_26_4 (by decide +kernel)) ?_
      refine Eq.trans (jr_s (pc2 := 8) (lv2 := [(2, .int 0), (0, .ref 10), (1, .int a1)]) (st2 := [.ref 10]) jF_26_7 rfl rfl) ?_
      refine Eq.trans (jr_gf (v := .int 3) jF_26_8 (rfl)) ?_
      refine Eq.trans (jr_s (pc2 := 14) (lv2 := [(2, .int 0), (0, .ref 10), (1, .int a1)]) (st2 := [.int 1600, .int 3]) jF_26_11 rfl rfl) ?_
      refine Eq.trans (jr_ic0 jF_26_14 (by decide +kernel)) ?_
      refine Eq.trans (jr_s (pc2 := 18) (lv2 := [(2, .int 0), (0, .ref 10), (1, .int a1)]) (st2 := [.ref 10]) jF_26_17 rfl rfl) ?_
      refine Eq.trans (jr_gf (v := .ref 11) jF_26_18 (rfl)) ?_
      refine Eq.trans (jr_s (pc2 := 22) (lv2 := [(2, .int 0), (0, .ref 10), (1, .int a1)]) (st2 := [.ref 10, .ref 11]) jF_26_21 rfl rfl) ?_
      refine Eq.trans (jr_gf (v := .int 3) jF_26_22 (rfl)) ?_
      refine Eq.trans (jr_s (pc2 := 26) (lv2 := [(2, .int 0), (0, .ref 10), (1, .int a1)]) (st2 := [.int a1, .int 3, .ref 11]) jF_26_25 rfl rfl) ?_
      refine Eq.trans (jr_s (pc2 := 27) (lv2 := [(2, .int 0), (0, .ref 10), (1, .int a1)]) (st2 := [.int 0, .int a1, .int 3, .ref 11]) jF_26_26 rfl rfl) ?_
      refine Eq.trans (jr_s (pc2 := 28) (lv2 := [(2, .int 0), (0, .ref 10), (1, .int a1)]) (st2 := [.int ((Int32.toUInt32 a1) >>> ((Int32.toUInt32 0) &&& Int32.toUInt32 31)).toInt32, .int 3, .ref 11]) jF_26_27 rfl rfl) ?_
      refine Eq.trans (jr_s (pc2 := 31) (lv2 := [(2, .int 0), (0, .ref 10), (1, .int a1)]) (st2 := [.int 255, .int ((Int32.toUInt32 a1) >>> ((Int32.toUInt32 0) &&& Int32.toUInt32 31)).toInt32, .int 3, .ref 11]) jF_26_28 rfl rfl) ?_
      refine Eq.trans (jr_s (pc2 := 32) (lv2 := [(2, .int 0), (0, .ref 10), (1, .int a1)]) (st2 := [.int (((Int32.toUInt32 a1) >>> ((Int32.toUInt32 0) &&& Int32.toUInt32 31)).toInt32 &&& 255), .int 3, .ref 11]) jF_26_31 rfl rfl) ?_
      refine Eq.trans (jr_sti (q := 3) jF_26_32 (rfl) (by decide +kernel)) ?_
      refine Eq.trans (jr_s (pc2 := 34) (lv2 := [(2, .int 0), (0, .ref 10), (1, .int a1)]) (st2 := [.ref 10]) jF_26_33 rfl rfl) ?_
      refine Eq.trans (jr_s (pc2 := 35) (lv2 := [(2, .int 0), (0, .ref 10), (1, .int a1)]) (st2 := [.ref 10, .ref 10]) jF_26_34 rfl rfl) ?_
      refine Eq.trans (jr_gf (v := .int 3) jF_26_35 (rfl)) ?_
      refine Eq.trans (jr_s (pc2 := 39) (lv2 := [(2, .int 0), (0, .ref 10), (1, .int a1)]) (st2 := [.int 1, .int 3, .ref 10]) jF_26_38 rfl rfl) ?_
      refine Eq.trans (jr_s (pc2 := 40) (lv2 := [(2, .int 0), (0, .ref 10), (1, .int a1)]) (st2 := [.int 4, .ref 10]) jF_26_39 rfl rfl) ?_
      refine Eq.trans (jr_pf jF_26_40 (rfl) rfl) ?_
      refine Eq.trans (jr_s (pc2 := 46) (lv2 := [(2, .int (-8)), (0, .ref 10), (1, .int a1)]) (st2 := []) jF_26_43 rfl rfl) ?_
      refine Eq.trans (jr_s (pc2 := 3) (lv2 := [(2, .int (-8)), (0, .ref 10), (1, .int a1)]) (st2 := []) jF_26_46 rfl rfl) ?_
      refine Eq.trans (jr_s (pc2 := 4) (lv2 := [(2, .int (-8)), (0, .ref 10), (1, .int a1)]) (st2 := [.int (-8)]) jF_26_3 rfl rfl) ?_
      refine Eq.trans (jr_if1 jF_26_4 (by decide +kernel)) ?_
      exact jr_rr jF_26_49
    refine Eq.trans (jr_s (pc2 := 31) (lv2 := [(0, .ref 9), (1, .int a1), (2, .int a2), (3, .int a3), (4, .int a4), (5, .int a5)]) (st2 := [.ref 9]) jF_24_30 rfl rfl) ?_
    refine Eq.trans (jr_gf (v := .ref 10) jF_24_31 (rfl)) ?_
    refine Eq.trans (jr_s (pc2 := 35) (lv2 := [(0, .ref 9), (1, .int a1), (2, .int a2), (3, .int a3), (4, .int a4), (5, .int a5)]) (st2 := [.int a2, .ref 10]) jF_24_34 rfl rfl) ?_
    refine Eq.trans (jr_cV (a := 10) (as := [.int a2]) (rest := []) (v := none) (hp2 := (j_stf (j_stf (j_stf (j_stf (j_stf (j_stf (j_stf (j_stf (j_stf (j_stf (j_stf (j_stf (j_stf (j_stf (j_stf (j_stf jh2 11 0 (.int (((Int32.toUInt32 a1) >>> ((Int32.toUInt32 24) &&& Int32.toUInt32 31)).toInt32 &&& 255))) 10 1 (.int 1)) 11 1 (.int (((Int32.toUInt32 a1) >>> ((Int32.toUInt32 16) &&& Int32.toUInt32 31)).toInt32 &&& 255))) 10 1 (.int 2)) 11 2 (.int (((Int32.toUInt32 a1) >>> ((Int32.toUInt32 8) &&& Int32.toUInt32 31)).toInt32 &&& 255))) 10 1 (.int 3)) 11 3 (.int (((Int32.toUInt32 a1) >>> ((Int32.toUInt32 0) &&& Int32.toUInt32 31)).toInt32 &&& 255))) 10 1 (.int 4)) 11 4 (.int (((Int32.toUInt32 a2) >>> ((Int32.toUInt32 24) &&& Int32.toUInt32 31)).toInt32 &&& 255))) 10 1 (.int 5)) 11 5 (.int (((Int32.toUInt32 a2) >>> ((Int32.toUInt32 16) &&& Int32.toUInt32 31)).toInt32 &&& 255))) 10 1 (.int 6)) 11 6 (.int (((Int32.toUInt32 a2) >>> ((Int32.toUInt32 8) &&& Int32.toUInt32 31)).toInt32 &&& 255))) 10 1 (.int 7)) 11 7 (.int (((Int32.toUInt32 a2) >>> ((Int32.toUInt32 0) &&& Int32.toUInt32 31)).toInt32 &&& 255))) 10 1 (.int 8))) (fr2 := 499) (lo2 := 19978) jF_24_35 (rfl) rfl (show j_cnd 500 20000 499 19978 3 _ _ = true from rfl) ?_) ?_
    · refine Eq.trans (jr_s (pc2 := 2) (lv2 := [(0, .ref 10), (1, .int a2)]) (st2 := [.int 24]) jF_26_0 rfl rfl) ?_
      refine Eq.trans (jr_s (pc2 := 3) (lv2 := [(2, .int 24), (0, .ref 10), (1, .int a2)]) (st2 := []) jF_26_2 rfl rfl) ?_
      refine Eq.trans (jr_s (pc2 := 4) (lv2 := [(2, .int 24), (0, .ref 10), (1, .int a2)]) (st2 := [.int 24]) jF_26_3 rfl rfl) ?_
      refine Eq.trans (jr_if0 jF_26_4 (by decide +kernel)) ?_
      refine Eq.trans (jr_s (pc2 := 8) (lv2 := [(2, .int 24), (0, .ref 10), (1, .int a2)]) (st2 := [.ref 10]) jF_26_7 rfl rfl) ?_
      refine Eq.trans (jr_gf (v := .int 4) jF_26_8 (rfl)) ?_
      refine Eq.trans (jr_s (pc2 := 14) (lv2 := [(2, .int 24), (0, .ref 10), (1, .int a2)]) (st2 := [.int 1600, .int 4]) jF_26_11 rfl rfl) ?_
      refine Eq.trans (jr_ic0 jF_26_14 (by decide +kernel)) ?_
      refine Eq.trans (jr_s (pc2 := 18) (lv2 := [(2, .int 24), (0, .ref 10), (1, .int a2)]) (st2 := [.ref 10]) jF_26_17 rfl rfl) ?_
      refine Eq.trans (jr_gf (v := .ref 11) jF_26_18 (rfl)) ?_
      refine Eq.trans (jr_s (pc2 := 22) (lv2 := [(2, .int 24), (0, .ref 10), (1, .int a2)]) (st2 := [.ref 10, .ref 11]) jF_26_21 rfl rfl) ?_
      refine Eq.trans (jr_gf (v := .int 4) jF_26_22 (rfl)) ?_
      refine Eq.trans (jr_s (pc2 := 26) (lv2 := [(2, .int 24), (0, .ref 10), (1, .int a2)]) (st2 := [.int a2, .int 4, .ref 11]) jF_26_25 rfl rfl) ?_
      refine Eq.trans (jr_s (pc2 := 27) (lv2 := [(2, .int 24), (0, .ref 10), (1, .int a2)]) (st2 := [.int 24, .int a2, .int 4, .ref 11]) jF_26_26 rfl rfl) ?_
      refine Eq.trans (jr_s (pc2 := 28) (lv2 := [(2, .int 24), (0, .ref 10), (1, .int a2)]) (st2 := [.int ((Int32.toUInt32 a2) >>> ((Int32.toUInt32 24) &&& Int32.toUInt32 31)).toInt32, .int 4, .ref 11]) jF_26_27 rfl rfl) ?_
      refine Eq.trans (jr_s (pc2 := 31) (lv2 := [(2, .int 24), (0, .ref 10), (1, .int a2)]) (st2 := [.int 255, .int ((Int32.toUInt32 a2) >>> ((Int32.toUInt32 24) &&& Int32.toUInt32 31)).toInt32, .int 4, .ref 11]) jF_26_28 rfl rfl) ?_
      refine Eq.trans (jr_s (pc2 := 32) (lv2 := [(2, .int 24), (0, .ref 10), (1, .int a2)]) (st2 := [.int (((Int32.toUInt32 a2) >>> ((Int32.toUInt32 24) &&& Int32.toUInt32 31)).toInt32 &&& 255), .int 4, .ref 11]) jF_26_31 rfl rfl) ?_
      refine Eq.trans (jr_sti (q := 4) jF_26_32 (rfl) (by decide +kernel)) ?_
      refine Eq.trans (jr_s (pc2 := 34) (lv2 := [(2, .int 24), (0, .ref 10), (1, .int a2)]) (st2 := [.ref 10]) jF_26_33 rfl rfl) ?_
      refine Eq.trans (jr_s (pc2 := 35) (lv2 := [(2, .int 24), (0, .ref 10), (1, .int a2)]) (st2 := [.ref 10, .ref 10]) jF_26_34 rfl rfl) ?_
      refine Eq.trans (jr_gf (v := .int 4) jF_26_35 (rfl)) ?_
      refine Eq.trans (jr_s (pc2 := 39) (lv2 := [(2, .int 24), (0, .ref 10), (1, .int a2)]) (st2 := [.int 1, .int 4, .ref 10]) jF_26_38 rfl rfl) ?_
      refine Eq.trans (jr_s (pc2 := 40) (lv2 := [(2, .int 24), (0, .ref 10), (1, .int a2)]) (st2 := [.int 5, .ref 10]) jF_26_39 rfl rfl) ?_
      refine Eq.trans (jr_pf jF_26_40 (rfl) rfl) ?_
      refine Eq.trans (jr_s (pc2 := 46) (lv2 := [(2, .int 16), (0, .ref 10), (1, .int a2)]) (st2 := []) jF_26_43 rfl rfl) ?_
      refine Eq.trans (jr_s (pc2 := 3) (lv2 := [(2, .int 16), (0, .ref 10), (1, .int a2)]) (st2 := []) jF_26_46 rfl rfl) ?_
      refine Eq.trans (jr_s (pc2 := 4) (lv2 := [(2, .int 16), (0, .ref 10), (1, .int a2)]) (st2 := [.int 16]) jF_26_3 rfl rfl) ?_
      refine Eq.trans (jr_if0 jF_26_4 (by decide +kernel)) ?_
      refine Eq.trans (jr_s (pc2 := 8) (lv2 := [(2, .int 16), (0, .ref 10), (1, .int a2)]) (st2 := [.ref 10]) jF_26_7 rfl rfl) ?_
      refine Eq.trans (jr_gf (v := .int 5) jF_26_8 (rfl)) ?_
      refine Eq.trans (jr_s (pc2 := 14) (lv2 := [(2, .int 16), (0, .ref 10), (1, .int a2)]) (st2 := [.int 1600, .int 5]) jF_26_11 rfl rfl) ?_
      refine Eq.trans (jr_ic0 jF_26_14 (by decide +kernel)) ?_
      refine Eq.trans (jr_s (pc2 := 18) (lv2 := [(2, .int 16), (0, .ref 10), (1, .int a2)]) (st2 := [.ref 10]) jF_26_17 rfl rfl) ?_
      refine Eq.trans (jr_gf (v := .ref 11) jF_26_18 (rfl)) ?_
      refine Eq.trans (jr_s (pc2 := 22) (lv2 := [(2, .int 16), (0, .ref 10), (1, .int a2)]) (st2 := [.ref 10, .ref 11]) jF_26_21 rfl rfl) ?_
      refine Eq.trans (jr_gf (v := .int 5) jF_26_22 (rfl)) ?_
      refine Eq.trans (jr_s (pc2 := 26) (lv2 := [(2, .int 16), (0, .ref 10), (1, .int a2)]) (st2 := [.int a2, .int 5, .ref 11]) jF_26_25 rfl rfl) ?_
      refine Eq.trans (jr_s (pc2 := 27) (lv2 := [(2, .int 16), (0, .ref 10), (1, .int a2)]) (st2 := [.int 16, .int a2, .int 5, .ref 11]) jF_26_26 rfl rfl) ?_
      refine Eq.trans (jr_s (pc2 := 28) (lv2 := [(2, .int 16), (0, .ref 10), (1, .int a2)]) (st2 := [.int ((Int32.toUInt32 a2) >>> ((Int32.toUInt32 16) &&& Int32.toUInt32 31)).toInt32, .int 5, .ref 11]) jF_26_27 rfl rfl) ?_
      refine Eq.trans (jr_s (pc2 := 31) (lv2 := [(2, .int 16), (0, .ref 10), (1, .int a2)]) (st2 := [.int 255, .int ((Int32.toUInt32 a2) >>> ((Int32.toUInt32 16) &&& Int32.toUInt32 31)).toInt32, .int 5, .ref 11]) jF_26_28 rfl rfl) ?_
      refine Eq.trans (jr_s (pc2 := 32) (lv2 := [(2, .int 16), (0, .ref 10), (1, .int a2)]) (st2 := [.int (((Int32.toUInt32 a2) >>> ((Int32.toUInt32 16) &&& Int32.toUInt32 31)).toInt32 &&& 255), .int 5, .ref 11]) jF_26_31 rfl rfl) ?_
      refine Eq.trans (jr_sti (q := 5) jF_26_32 (rfl) (by decide +kernel)) ?_
      refine Eq.trans (jr_s (pc2 := 34) (lv2 := [(2, .int 16), (0, .ref 10), (1, .int a2)]) (st2 := [.ref 10]) jF_26_33 rfl rfl) ?_
      refine Eq.trans (jr_s (pc2 := 35) (lv2 := [(2, .int 16), (0, .ref 10), (1, .int a2)]) (st2 := [.ref 10, .ref 10]) jF_26_34 rfl rfl) ?_
      refine Eq.trans (jr_gf (v := .int 5) jF_26_35 (rfl)) ?_
      refine Eq.trans (jr_s (pc2 := 39) (lv2 := [(2, .int 16), (0, .ref 10), (1, .int a2)]) (st2 := [.int 1, .int 5, .ref 10]) jF_26_38 rfl rfl) ?_
      refine Eq.trans (jr_s (pc2 := 40) (lv2 := [(2, .int 16), (0, .ref 10), (1, .int a2)]) (st2 := [.int 6, .ref 10]) jF_26_39 rfl rfl) ?_
      refine Eq.trans (jr_pf jF_26_40 (rfl) rfl) ?_
      refine Eq.trans (jr_s (pc2 := 46) (lv2 := [(2, .int 8), (0, .ref 10), (1, .int a2)]) (st2 := []) jF_26_43 rfl rfl) ?_
      refine Eq.trans (jr_s (pc2 := 3) (lv2 := [(2, .int 8), (0, .ref 10), (1, .int a2)]) (st2 := []) jF_26_46 rfl rfl) ?_
      refine Eq.trans (jr_s (pc2 := 4) (lv2 := [(2, .int 8), (0, .ref 10), (1, .int a2)]) (st2 := [.int 8]) jF_26_3 rfl rfl) ?_
      refine Eq.trans (jr_if0 jF_26_4 (by decide +kernel)) ?_
      refine Eq.trans (jr_s (pc2 := 8) (lv2 := [(2, .int 8), (0, .ref 10), (1, .int a2)]) (st2 := [.ref 10]) jF_26_7 rfl rfl) ?_
      refine Eq.trans (jr_gf (v := .int 6) jF_26_8 (rfl)) ?_
      refine Eq.trans (jr_s (pc2 := 14) (lv2 := [(2, .int 8), (0, .ref 10), (1, .int a2)]) (st2 := [.int 1600, .int 6]) jF_26_11 rfl rfl) ?_
      refine Eq.trans (jr_ic0 jF_26_14 (by decide +kernel)) ?_
      refine Eq.trans (jr_s (pc2 := 18) (lv2 := [(2, .int 8), (0, .ref 10), (1, .int a2)]) (st2 := [.ref 10]) jF_26_17 rfl rfl) ?_
      refine Eq.trans (jr_gf (v := .ref 11) jF_26_18 (rfl)) ?_
      refine Eq.trans (jr_s (pc2 := 22) (lv2 := [(2, .int 8), (0, .ref 10), (1, .int a2)]) (st2 := [.ref 10, .ref 11]) jF_26_21 rfl rfl) ?_
      refine Eq.trans (jr_gf (v := .int 6) jF_26_22 (rfl)) ?_
      refine Eq.trans (jr_s (pc2 := 26) (lv2 := [(2, .int 8), (0, .ref 10), (1, .int a2)]) (st2 := [.int a2, .int 6, .ref 11]) jF_26_25 rfl rfl) ?_
      refine Eq.trans (jr_s (pc2 := 27) (lv2 := [(2, .int 8), (0, .ref 10), (1, .int a2)]) (st2 := [.int 8, .int a2, .int 6, .ref 11]) jF_26_26 rfl rfl) ?_
      refine Eq.trans (jr_s (pc2 := 28) (lv2 := [(2, .int 8), (0, .ref 10), (1, .int a2)]) (st2 := [.int ((Int32.toUInt32 a2) >>> ((Int32.toUInt32 8) &&& Int32.toUInt32 31)).toInt32, .int 6, .ref 11]) jF_26_27 rfl rfl) ?_
      refine Eq.trans (jr_s (pc2 := 31) (lv2 := [(2, .int 8), (0, .ref 10), (1, .int a2)]) (st2 := [.int 255, .int ((Int32.toUInt32 a2) >>> ((Int32.toUInt32 8) &&& Int32.toUInt32 31)).toInt32, .int 6, .ref 11]) jF_26_28 rfl rfl) ?_
      refine Eq.trans (jr_s (pc2 := 32) (lv2 := [(2, .int 8), (0, .ref 10), (1, .int a2)]) (st2 := [.int (((Int32.toUInt32 a2) >>> ((Int32.toUInt32 8) &&& Int32.toUInt32 31)).toInt32 &&& 255), .int 6, .ref 11]) jF_26_31 rfl rfl) ?_
      refine Eq.trans (jr_sti (q := 6) jF_26_32 (rfl) (by decide +kernel)) ?_
      refine Eq.trans (jr_s (pc2 := 34) (lv2 := [(2, .int 8), (0, .ref 10), (1, .int a2)]) (st2 := [.ref 10]) jF_26_33 rfl rfl) ?_
      refine Eq.trans (jr_s (pc2 := 35) (lv2 := [(2, .int 8), (0, .ref 10), (1, .int a2)]) (st2 := [.ref 10, .ref 10]) jF_26_34 rfl rfl) ?_
      refine Eq.trans (jr_gf (v := .int 6) jF_26_35 (rfl)) ?_
      refine Eq.trans (jr_s (pc2 := 39) (lv2 := [(2, .int 8), (0, .ref 10), (1, .int a2)]) (st2 := [.int 1, .int 6, .ref 10]) jF_26_38 rfl rfl) ?_
      refine Eq.trans (jr_s (pc2 := 40) (lv2 := [(2, .int 8), (0, .ref 10), (1, .int a2)]) (st2 := [.int 7, .ref 10]) jF_26_39 rfl rfl) ?_
      refine Eq.trans (jr_pf jF_26_40 (rfl) rfl) ?_
      refine Eq.trans (jr_s (pc2 := 46) (lv2 := [(2, .int 0), (0, .ref 10), (1, .int a2)]) (st2 := []) jF_26_43 rfl rfl) ?_
      refine Eq.trans (jr_s (pc2 := 3) (lv2 := [(2, .int 0), (0, .ref 10), (1, .int a2)]) (st2 := []) jF_26_46 rfl rfl) ?_
      refine Eq.trans (jr_s (pc2 := 4) (lv2 := [(2, .int 0), (0, .ref 10), (1, .int a2)]) (st2 := [.int 0]) jF_26_3 rfl rfl) ?_
      refine Eq.trans (jr_if0 jF_26_4 (by decide +kernel)) ?_
      refine Eq.trans (jr_s (pc2 := 8) (lv2 := [(2, .int 0), (0, .ref 10), (1, .int a2)]) (st2 := [.ref 10]) jF_26_7 rfl rfl) ?_
      refine Eq.trans (jr_gf (v := .int 7) jF_26_8 (rfl)) ?_
      refine Eq.trans (jr_s (pc2 := 14) (lv2 := [(2, .int 0), (0, .ref 10), (1, .int a2)]) (st2 := [.int 1600, .int 7]) jF_26_11 rfl rfl) ?_
      refine Eq.trans (jr_ic0 jF_26_14 (by decide +kernel)) ?_
      refine Eq.trans (jr_s (pc2 := 18) (lv2 := [(2, .int 0), (0, .ref 10), (1, .int a2)]) (st2 := [.ref 10]) jF_26_17 rfl rfl) ?_
      refine Eq.trans (jr_gf (v := .ref 11) jF_26_18 (rfl)) ?_
      refine Eq.trans (jr_s (pc2 := 22) (lv2 := [(2, .int 0), (0, .ref 10), (1, .int a2)]) (st2 := [.ref 10, .ref 11]) jF_26_21 rfl rfl) ?_
      refine Eq.trans (jr_gf (v := .int 7) jF_26_22 (rfl)) ?_
      refine Eq.trans (jr_s (pc2 := 26) (lv2 := [(2, .int 0), (0, .ref 10), (1, .int a2)]) (st2 := [.int a2, .int 7, .ref 11]) jF_26_25 rfl rfl) ?_
      refine Eq.trans (jr_s (pc2 := 27) (lv2 := [(2, .int 0), (0, .ref 10), (1, .int a2)]) (st2 := [.int 0, .int a2, .int 7, .ref 11]) jF_26_26 rfl rfl) ?_
      refine Eq.trans (jr_s (pc2 := 28) (lv2 := [(2, .int 0), (0, .ref 10), (1, .int a2)]) (st2 := [.int ((Int32.toUInt32 a2) >>> ((Int32.toUInt32 0) &&& Int32.toUInt32 31)).toInt32, .int 7, .ref 11]) jF_26_27 rfl rfl) ?_
      refine Eq.trans (jr_s (pc2 := 31) (lv2 := [(2, .int 0), (0, .ref 10), (1, .int a2)]) (st2 := [.int 255, .int ((Int32.toUInt32 a2) >>> ((Int32.toUInt32 0) &&& Int32.toUInt32 31)).toInt32, .int 7, .ref 11]) jF_26_28 rfl rfl) ?_
      refine Eq.trans (jr_s (pc2 := 32) (lv2 := [(2, .int 0), (0, .ref 10), (1, .int a2)]) (st2 := [.int (((Int32.toUInt32 a2) >>> ((Int32.toUInt32 0) &&& Int32.toUInt32 31)).toInt32 &&& 255), .int 7, .ref 11]) jF_26_31 rfl rfl) ?_
      refine Eq.trans (jr_sti (q := 7) jF_26_32 (rfl) (by decide +kernel)) ?_
      refine Eq.trans (jr_s (pc2 := 34) (lv2 := [(2, .int 0), (0, .ref 10), (1, .int a2)]) (st2 := [.ref 10]) jF_26_33 rfl rfl) ?_
      refine Eq.trans (jr_s (pc2 := 35) (lv2 := [(2, .int 0), (0, .ref 10), (1, .int a2)]) (st2 := [.ref 10, .ref 10]) jF_26_34 rfl rfl) ?_
      refine Eq.trans (jr_gf (v := .int 7) jF_26_35 (rfl)) ?_
      refine Eq.trans (jr_s (pc2 := 39) (lv2 := [(2, .int 0), (0, .ref 10), (1, .int a2)]) (st2 := [.int 1, .int 7, .ref 10]) jF_26_38 rfl rfl) ?_
      refine Eq.trans (jr_s (pc2 := 40) (lv2 := [(2, .int 0), (0, .ref 10), (1, .int a2)]) (st2 := [.int 8, .ref 10]) jF_26_39 rfl rfl) ?_
      refine Eq.trans (jr_pf jF_26_40 (rfl) rfl) ?_
      refine Eq.trans (jr_s (pc2 := 46) (lv2 := [(2, .int (-8)), (0, .ref 10), (1, .int a2)]) (st2 := []) jF_26_43 rfl rfl) ?_
      refine Eq.trans (jr_s (pc2 := 3) (lv2 := [(2, .int (-8)), (0, .ref 10), (1, .int a2)]) (st2 := []) jF_26_46 rfl rfl) ?_
      refine Eq.trans (jr_s (pc2 := 4) (lv2 := [(2, .int (-8)), (0, .ref 10), (1, .int a2)]) (st2 := [.int (-8)]) jF_26_3 rfl rfl) ?_
      refine Eq.trans (jr_if1 jF_26_4 (by decide +kernel)) ?_
      exact jr_rr jF_26_49
    refine Eq.trans (jr_s (pc2 := 39) (lv2 := [(0, .ref 9), (1, .int a1), (2, .int a2), (3, .int a3), (4, .int a4), (5, .int a5)]) (st2 := [.ref 9]) jF_24_38 rfl rfl) ?_
    refine Eq.trans (jr_gf (v := .ref 10) jF_24_39 (rfl)) ?_
    refine Eq.trans (jr_s (pc2 := 43) (lv2 := [(0, .ref 9), (1, .int a1), (2, .int a2), (3, .int a3), (4, .int a4), (5, .int a5)]) (st2 := [.int a3, .ref 10]) jF_24_42 rfl rfl) ?_
    refine Eq.trans (jr_cV (a := 10) (as := [.int a3]) (rest := []) (v := none) (hp2 := (j_stf (j_stf (j_stf (j_stf (j_stf (j_stf (j_stf (j_stf (j_stf (j_stf (j_stf (j_stf (j_stf (j_stf (j_stf (j_stf (j_stf (j_stf (j_stf (j_stf (j_stf (j_stf (j_stf (j_stf jh2 11 0 (.int (((Int32.toUInt32 a1) >>> ((Int32.toUInt32 24) &&& Int32.toUInt32 31)).toInt32 &&& 255))) 10 1 (.int 1)) 11 1 (.int (((Int32.toUInt32 a1) >>> ((Int32.toUInt32 16) &&& Int32.toUInt32 31)).toInt32 &&& 255))) 10 1 (.int 2)) 11 2 (.int (((Int32.toUInt32 a1) >>> ((Int32.toUInt32 8) &&& Int32.toUInt32 31)).toInt32 &&& 255))) 10 1 (.int 3)) 11 3 (.int (((Int32.toUInt32 a1) >>> ((Int32.toUInt32 0) &&& Int32.toUInt32 31)).toInt32 &&& 255))) 10 1 (.int 4)) 11 4 (.int (((Int32.toUInt32 a2) >>> ((Int32.toUInt32 24) &&& Int32.toUInt32 31)).toInt32 &&& 255))) 10 1 (.int 5)) 11 5 (.int (((Int32.toUInt32 a2) >>> ((Int32.toUInt32 16) &&& Int32.toUInt32 31)).toInt32 &&& 255))) 10 1 (.int 6)) 11 6 (.int (((Int32.toUInt32 a2) >>> ((Int32.toUInt32 8) &&& Int32.toUInt32 31)).toInt32 &&& 255))) 10 1 (.int 7)) 11 7 (.int (((Int32.toUInt32 a2) >>> ((Int32.toUInt32 0) &&& Int32.toUInt32 31)).toInt32 &&& 255))) 10 1 (.int 8)) 11 8 (.int (((Int32.toUInt32 a3) >>> ((Int32.toUInt32 24) &&& Int32.toUInt32 31)).toInt32 &&& 255))) 10 1 (.int 9)) 11 9 (.int (((Int32.toUInt32 a3) >>> ((Int32.toUInt32 16) &&& Int32.toUInt32 31)).toInt32 &&& 255))) 10 1 (.int 10)) 11 10 (.int (((Int32.toUInt32 a3) >>> ((Int32.toUInt32 8) &&& Int32.toUInt32 31)).toInt32 &&& 255))) 10 1 (.int 11)) 11 11 (.int (((Int32.toUInt32 a3) >>> ((Int32.toUInt32 0) &&& Int32.toUInt32 31)).toInt32 &&& 255))) 10 1 (.int 12))) (fr2 := 499) (lo2 := 19978) jF_24_43 (rfl) rfl (show j_cnd 500 20000 499 19978 3 _ _ = true from rfl) ?_) ?_
    · refine Eq.trans (jr_s (pc2 := 2) (lv2 := [(0, .ref 10), (1, .int a3)]) (st2 := [.int 24]) jF_26_0 rfl rfl) ?_
      refine Eq.trans (jr_s (pc2 := 3) (lv2 := [(2, .int 24), (0, .ref 10), (1, .int a3)]) (st2 := []) jF_26_2 rfl rfl) ?_
      refine Eq.trans (jr_s (pc2 := 4) (lv2 := [(2, .int 24), (0, .ref 10), (1, .int a3)]) (st2 := [.int 24]) jF_26_3 rfl rfl) ?_
      refine Eq.trans (jr_if0 jF_26_4 (by decide +kernel)) ?_
      refine Eq.trans (jr_s (pc2 := 8) (lv2 := [(2, .int 24), (0, .ref 10), (1, .int a3)]) (st2 := [.ref 10]) jF_26_7 rfl rfl) ?_
      refine Eq.trans (jr_gf (v := .int 8) jF_26_8 (rfl)) ?_
      refine Eq.trans (jr_s (pc2 := 14) (lv2 := [(2, .int 24), (0, .ref 10), (1, .int a3)]) (st2 := [.int 1600, .int 8]) jF_26_11 rfl rfl) ?_
      refine Eq.trans (jr_ic0 jF_26_14 (by decide +kernel)) ?_
      refine Eq.trans (jr_s (pc2 := 18) (lv2 := [(2, .int 24), (0, .ref 10), (1, .int a3)]) (st2 := [.ref 10]) jF_26_17 rfl rfl) ?_
      refine Eq.trans (jr_gf (v := .ref 11) jF_26_18 (rfl)) ?_
      refine Eq.trans (jr_s (pc2 := 22) (lv2 := [(2, .int 24), (0, .ref 10), (1, .int a3)]) (st2 := [.ref 10, .ref 11]) jF_26_21 rfl rfl) ?_
      refine Eq.trans (jr_gf (v := .int 8) jF_26_22 (rfl)) ?_
      refine Eq.trans (jr_s (pc2 := 26) (lv2 := [(2, .int 24), (0, .ref 10), (1, .int a3)]) (st2 := [.int a3, .int 8, .ref 11]) jF_26_25 rfl rfl) ?_
      refine Eq.trans (jr_s (pc2 := 27) (lv2 := [(2, .int 24), (0, .ref 10), (1, .int a3)]) (st2 := [.int 24, .int a3, .int 8, .ref 11]) jF_26_26 rfl rfl) ?_
      refine Eq.trans (jr_s (pc2 := 28) (lv2 := [(2, .int 24), (0, .ref 10), (1, .int a3)]) (st2 := [.int ((Int32.toUInt32 a3) >>> ((Int32.toUInt32 24) &&& Int32.toUInt32 31)).toInt32, .int 8, .ref 11]) jF_26_27 rfl rfl) ?_
      refine Eq.trans (jr_s (pc2 := 31) (lv2 := [(2, .int 24), (0, .ref 10), (1, .int a3)]) (st2 := [.int 255, .int ((Int32.toUInt32 a3) >>> ((Int32.toUInt32 24) &&& Int32.toUInt32 31)).toInt32, .int 8, .ref 11]) jF_26_28 rfl rfl) ?_
      refine Eq.trans (jr_s (pc2 := 32) (lv2 := [(2, .int 24), (0, .ref 10), (1, .int a3)]) (st2 := [.int (((Int32.toUInt32 a3) >>> ((Int32.toUInt32 24) &&& Int32.toUInt32 31)).toInt32 &&& 255), .int 8, .ref 11]) jF_26_31 rfl rfl) ?_
      refine Eq.trans (jr_sti (q := 8) jF_26_32 (rfl) (by decide +kernel)) ?_
      refine Eq.trans (jr_s (pc2 := 34) (lv2 := [(2, .int 24), (0, .ref 10), (1, .int a3)]) (st2 := [.ref 10]) jF_26_33 rfl rfl) ?_
      refine Eq.trans (jr_s (pc2 := 35) (lv2 := [(2, .int 24), (0, .ref 10), (1, .int a3)]) (st2 := [.ref 10, .ref 10]) jF_26_34 rfl rfl) ?_
      refine Eq.trans (jr_gf (v := .int 8) jF_26_35 (rfl)) ?_
      refine Eq.trans (jr_s (pc2 := 39) (lv2 := [(2, .int 24), (0, .ref 10), (1, .int a3)]) (st2 := [.int 1, .int 8, .ref 10]) jF_26_38 rfl rfl) ?_
      refine Eq.trans (jr_s (pc2 := 40) (lv2 := [(2, .int 24), (0, .ref 10), (1, .int a3)]) (st2 := [.int 9, .ref 10]) jF_26_39 rfl rfl) ?_
      refine Eq.trans (jr_pf jF_26_40 (rfl) rfl) ?_
      refine Eq.trans (jr_s (pc2 := 46) (lv2 := [(2, .int 16), (0, .ref 10), (1, .int a3)]) (st2 := []) jF_26_43 rfl rfl) ?_
      refine Eq.trans (jr_s (pc2 := 3) (lv2 := [(2, .int 16), (0, .ref 10), (1, .int a3)]) (st2 := []) jF_26_46 rfl rfl) ?_
      refine Eq.trans (jr_s (pc2 := 4) (lv2 := [(2, .int 16), (0, .ref 10), (1, .int a3)]) (st2 := [.int 16]) jF_26_3 rfl rfl) ?_
      refine Eq.trans (jr_if0 jF_26_4 (by decide +kernel)) ?_
      refine Eq.trans (jr_s (pc2 := 8) (lv2 := [(2, .int 16), (0, .ref 10), (1, .int a3)]) (st2 := [.ref 10]) jF_26_7 rfl rfl) ?_
      refine Eq.trans (jr_gf (v := .int 9) jF_26_8 (rfl)) ?_
      refine Eq.trans (jr_s (pc2 := 14) (lv2 := [(2, .int 16), (0, .ref 10), (1, .int a3)]) (st2 := [.int 1600, .int 9]) jF_26_11 rfl rfl) ?_
      refine Eq.trans (jr_ic0 jF_26_14 (by decide +kernel)) ?_
      refine Eq.trans (jr_s (pc2 := 18) (lv2 := [(2, .int 16), (0, .ref 10), (1, .int a3)]) (st2 := [.ref 10]) jF_26_17 rfl rfl) ?_
      refine Eq.trans (jr_gf (v := .ref 11) jF_26_18 (rfl)) ?_
      refine Eq.trans (jr_s (pc2 := 22) (lv2 := [(2, .int 16), (0, .ref 10), (1, .int a3)]) (st2 := [.ref 10, .ref 11]) jF_26_21 rfl rfl) ?_
      refine Eq.trans (jr_gf (v := .int 9) jF_26_22 (rfl)) ?_
      refine Eq.trans (jr_s (pc2 := 26) (lv2 := [(2, .int 16), (0, .ref 10), (1, .int a3)]) (st2 := [.int a3, .int 9, .ref 11]) jF_26_25 rfl rfl) ?_
      refine Eq.trans (jr_s (pc2 := 27) (lv2 := [(2, .int 16), (0, .ref 10), (1, .int a3)]) (st2 := [.int 16, .int a3, .int 9, .ref 11]) jF_26_26 rfl rfl) ?_
      refine Eq.trans (jr_s (pc2 := 28) (lv2 := [(2, .int 16), (0, .ref 10), (1, .int a3)]) (st2 := [.int ((Int32.toUInt32 a3) >>> ((Int32.toUInt32 16) &&& Int32.toUInt32 31)).toInt32, .int 9, .ref 11]) jF_26_27 rfl rfl) ?_
      refine Eq.trans (jr_s (pc2 := 31) (lv2 := [(2, .int 16), (0, .ref 10), (1, .int a3)]) (st2 := [.int 255, .int ((Int32.toUInt32 a3) >>> ((Int32.toUInt32 16) &&& Int32.toUInt32 31)).toInt32, .int 9, .ref 11]) jF_26_28 rfl rfl) ?_
      refine Eq.trans (jr_s (pc2 := 32) (lv2 := [(2, .int 16), (0, .ref 10), (1, .int a3)]) (st2 := [.int (((Int32.toUInt32 a3) >>> ((Int32.toUInt32 16) &&& Int32.toUInt32 31)).toInt32 &&& 255), .int 9, .ref 11]) jF_26_31 rfl rfl) ?_
      refine Eq.trans (jr_sti (q := 9) jF_26_32 (rfl) (by decide +kernel)) ?_
      refine Eq.trans (jr_s (pc2 := 34) (lv2 := [(2, .int 16), (0, .ref 10), (1, .int a3)]) (st2 := [.ref 10]) jF_26_33 rfl rfl) ?_
      refine Eq.trans (jr_s (pc2 := 35) (lv2 := [(2, .int 16), (0, .ref 10), (1, .int a3)]) (st2 := [.ref 10, .ref 10]) jF_26_34 rfl rfl) ?_
      refine Eq.trans (jr_gf (v := .int 9) jF_26_35 (rfl)) ?_
      refine Eq.trans (jr_s (pc2 := 39) (lv2 := [(2, .int 16), (0, .ref 10), (1, .int a3)]) (st2 := [.int 1, .int 9, .ref 10]) jF_26_38 rfl rfl) ?_
      refine Eq.trans (jr_s (pc2 := 40) (lv2 := [(2, .int 16), (0, .ref 10), (1, .int a3)]) (st2 := [.int 10, .ref 10]) jF_26_39 rfl rfl) ?_
      refine Eq.trans (jr_pf jF_26_40 (rfl) rfl) ?_
      refine Eq.trans (jr_s (pc2 := 46) (lv2 := [(2, .int 8), (0, .ref 10), (1, .int a3)]) (st2 := []) jF_26_43 rfl rfl) ?_
      refine Eq.trans (jr_s (pc2 := 3) (lv2 := [(2, .int 8), (0, .ref 10), (1, .int a3)]) (st2 := []) jF_26_46 rfl rfl) ?_
      refine Eq.trans (jr_s (pc2 := 4) (lv2 := [(2, .int 8), (0, .ref 10), (1, .int a3)]) (st2 := [.int 8]) jF_26_3 rfl rfl) ?_
      refine Eq.trans (jr_if0 jF_26_4 (by decide +kernel)) ?_
      refine Eq.trans (jr_s (pc2 := 8) (lv2 := [(2, .int 8), (0, .ref 10), (1, .int a3)]) (st2 := [.ref 10]) jF_26_7 rfl rfl) ?_
      refine Eq.trans (jr_gf (v := .int 10) jF_26_8 (rfl)) ?_
      refine Eq.trans (jr_s (pc2 := 14) (lv2 := [(2, .int 8), (0, .ref 10), (1, .int a3)]) (st2 := [.int 1600, .int 10]) jF_26_11 rfl rfl) ?_
      refine Eq.trans (jr_ic0 jF_26_14 (by decide +kernel)) ?_
      refine Eq.trans (jr_s (pc2 := 18) (lv2 := [(2, .int 8), (0, .ref 10), (1, .int a3)]) (st2 := [.ref 10]) jF_26_17 rfl rfl) ?_
      refine Eq.trans (jr_gf (v := .ref 11) jF_26_18 (rfl)) ?_
      refine Eq.trans (jr_s (pc2 := 22) (lv2 := [(2, .int 8), (0, .ref 10), (1, .int a3)]) (st2 := [.ref 10, .ref 11]) jF_26_21 rfl rfl) ?_
      refine Eq.trans (jr_gf (v := .int 10) jF_26_22 (rfl)) ?_
      refine Eq.trans (jr_s (pc2 := 26) (lv2 := [(2, .int 8), (0, .ref 10), (1, .int a3)]) (st2 := [.int a3, .int 10, .ref 11]) jF_26_25 rfl rfl) ?_
      refine Eq.trans (jr_s (pc2 := 27) (lv2 := [(2, .int 8), (0, .ref 10), (1, .int a3)]) (st2 := [.int 8, .int a3, .int 10, .ref 11]) jF_26_26 rfl rfl) ?_
      refine Eq.trans (jr_s (pc2 := 28) (lv2 := [(2, .int 8), (0, .ref 10), (1, .int a3)]) (st2 := [.int ((Int32.toUInt32 a3) >>> ((Int32.toUInt32 8) &&& Int32.toUInt32 31)).toInt32, .int 10, .ref 11]) jF_26_27 rfl rfl) ?_
      refine Eq.trans (jr_s (pc2 := 31) (lv2 := [(2, .int 8), (0, .ref 10), (1, .int a3)]) (st2 := [.int 255, .int ((Int32.toUInt32 a3) >>> ((Int32.toUInt32 8) &&& Int32.toUInt32 31)).toInt32, .int 10, .ref 11]) jF_26_28 rfl rfl) ?_
      refine Eq.trans (jr_s (pc2 := 32) (lv2 := [(2, .int 8), (0, .ref 10), (1, .int a3)]) (st2 := [.int (((Int32.toUInt32 a3) >>> ((Int32.toUInt32 8) &&& Int32.toUInt32 31)).toInt32 &&& 255), .int 10, .ref 11]) jF_26_31 rfl rfl) ?_
      refine Eq.trans (jr_sti (q := 10) jF_26_32 (rfl) (by decide +kernel)) ?_
      refine Eq.trans (jr_s (pc2 := 34) (lv2 := [(2, .int 8), (0, .ref 10), (1, .int a3)]) (st2 := [.ref 10]) jF_26_33 rfl rfl) ?_
      refine Eq.trans (jr_s (pc2 := 35) (lv2 := [(2, .int 8), (0, .ref 10), (1, .int a3)]) (st2 := [.ref 10, .ref 10]) jF_26_34 rfl rfl) ?_
      refine Eq.trans (jr_gf (v := .int 10) jF_26_35 (rfl)) ?_
      refine Eq.trans (jr_s (pc2 := 39) (lv2 := [(2, .int 8), (0, .ref 10), (1, .int a3)]) (st2 := [.int 1, .int 10, .ref 10]) jF_26_38 rfl rfl) ?_
      refine Eq.trans (jr_s (pc2 := 40) (lv2 := [(2, .int 8), (0, .ref 10), (1, .int a3)]) (st2 := [.int 11, .ref 10]) jF_26_39 rfl rfl) ?_
      refine Eq.trans (jr_pf jF_26_40 (rfl) rfl) ?_
      refine Eq.trans (jr_s (pc2 := 46) (lv2 := [(2, .int 0), (0, .ref 10), (1, .int a3)]) (st2 := []) jF_26_43 rfl rfl) ?_
      refine Eq.trans (jr_s (pc2 := 3) (lv2 := [(2, .int 0), (0, .ref 10), (1, .int a3)]) (st2 := []) jF_26_46 rfl rfl) ?_
      refine Eq.trans (jr_s (pc2 := 4) (lv2 := [(2, .int 0), (0, .ref 10), (1, .int a3)]) (st2 := [.int 0]) jF_26_3 rfl rfl) ?_
      refine Eq.trans (jr_if0 jF_26_4 (by decide +kernel)) ?_
      refine Eq.trans (jr_s (pc2 := 8) (lv2 := [(2, .int 0), (0, .ref 10), (1, .int a3)]) (st2 := [.ref 10]) jF_26_7 rfl rfl) ?_
      refine Eq.trans (jr_gf (v := .int 11) jF_26_8 (rfl)) ?_
      refine Eq.trans (jr_s (pc2 := 14) (lv2 := [(2, .int 0), (0, .ref 10), (1, .int a3)]) (st2 := [.int 1600, .int 11]) jF_26_11 rfl rfl) ?_
      refine Eq.trans (jr_ic0 jF_26_14 (by decide +kernel)) ?_
      refine Eq.trans (jr_s (pc2 := 18) (lv2 := [(2, .int 0), (0, .ref 10), (1, .int a3)]) (st2 := [.ref 10]) jF_26_17 rfl rfl) ?_
      refine Eq.trans (jr_gf (v := .ref 11) jF_26_18 (rfl)) ?_
      refine Eq.trans (jr_s (pc2 := 22) (lv2 := [(2, .int 0), (0, .ref 10), (1, .int a3)]) (st2 := [.ref 10, .ref 11]) jF_26_21 rfl rfl) ?_
      refine Eq.trans (jr_gf (v := .int 11) jF_26_22 (rfl)) ?_
      refine Eq.trans (jr_s (pc2 := 26) (lv2 := [(2, .int 0), (0, .ref 10), (1, .int a3)]) (st2 := [.int a3, .int 11, .ref 11]) jF_26_25 rfl rfl) ?_
      refine Eq.trans (jr_s (pc2 := 27) (lv2 := [(2, .int 0), (0, .ref 10), (1, .int a3)]) (st2 := [.int 0, .int a3, .int 11, .ref 11]) jF_26_26 rfl rfl) ?_
      refine Eq.trans (jr_s (pc2 := 28) (lv2 := [(2, .int 0), (0, .ref 10), (1, .int a3)]) (st2 := [.int ((Int32.toUInt32 a3) >>> ((Int32.toUInt32 0) &&& Int32.toUInt32 31)).toInt32, .int 11, .ref 11]) jF_26_27 rfl rfl) ?_
      refine Eq.trans (jr_s (pc2 := 31) (lv2 := [(2, .int 0), (0, .ref 10), (1, .int a3)]) (st2 := [.int 255, .int ((Int32.toUInt32 a3) >>> ((Int32.toUInt32 0) &&& Int32.toUInt32 31)).toInt32, .int 11, .ref 11]) jF_26_28 rfl rfl) ?_
      refine Eq.trans (jr_s (pc2 := 32) (lv2 := [(2, .int 0), (0, .ref 10), (1, .int a3)]) (st2 := [.int (((Int32.toUInt32 a3) >>> ((Int32.toUInt32 0) &&& Int32.toUInt32 31)).toInt32 &&& 255), .int 11, .ref 11]) jF_26_31 rfl rfl) ?_
      refine Eq.trans (jr_sti (q := 11) jF_26_32 (rfl) (by decide +kernel)) ?_
      refine Eq.trans (jr_s (pc2 := 34) (lv2 := [(2, .int 0), (0, .ref 10), (1, .int a3)]) (st2 := [.ref 10]) jF_26_33 rfl rfl) ?_
      refine Eq.trans (jr_s (pc2 := 35) (lv2 := [(2, .int 0), (0, .ref 10), (1, .int a3)]) (st2 := [.ref 10, .ref 10]) jF_26_34 rfl rfl) ?_
      refine Eq.trans (jr_gf (v := .int 11) jF_26_35 (rfl)) ?_
      refine Eq.trans (jr_s (pc2 := 39) (lv2 := [(2, .int 0), (0, .ref 10), (1, .int a3)]) (st2 := [.int 1, .int 11, .ref 10]) jF_26_38 rfl rfl) ?_
      refine Eq.trans (jr_s (pc2 := 40) (lv2 := [(2, .int 0), (0, .ref 10), (1, .int a3)]) (st2 := [.int 12, .ref 10]) jF_26_39 rfl rfl) ?_
      refine Eq.trans (jr_pf jF_26_40 (rfl) rfl) ?_
      refine Eq.trans (jr_s (pc2 := 46) (lv2 := [(2, .int (-8)), (0, .ref 10), (1, .int a3)]) (st2 := []) jF_26_43 rfl rfl) ?_
      refine Eq.trans (jr_s (pc2 := 3) (lv2 := [(2, .int (-8)), (0, .ref 10), (1, .int a3)]) (st2 := []) jF_26_46 rfl rfl) ?_
      refine Eq.trans (jr_s (pc2 := 4) (lv2 := [(2, .int (-8)), (0, .ref 10), (1, .int a3)]) (st2 := [.int (-8)]) jF_26_3 rfl rfl) ?_
      refine Eq.trans (jr_if1 jF_26_4 (by decide +kernel)) ?_
      exact jr_rr jF_26_49
    refine Eq.trans (jr_s (pc2 := 47) (lv2 := [(0, .ref 9), (1, .int a1), (2, .int a2), (3, .int a3), (4, .int a4), (5, .int a5)]) (st2 := [.ref 9]) jF_24_46 rfl rfl) ?_
    refine Eq.trans (jr_gf (v := .ref 10) jF_24_47 (rfl)) ?_
    refine Eq.trans (jr_s (pc2 := 52) (lv2 := [(0, .ref 9), (1, .int a1), (2, .int a2), (3, .int a3), (4, .int a4), (5, .int a5)]) (st2 := [.int a4, .ref 10]) jF_24_50 rfl rfl) ?_
    refine Eq.trans (jr_cV (a := 10) (as := [.int a4]) (rest := []) (v := none) (hp2 := (j_stf (j_stf (j_stf (j_stf (j_stf (j_stf (j_stf (j_stf (j_stf (j_stf (j_stf (j_stf (j_stf (j_stf (j_stf (j_stf (j_stf (j_stf (j_stf (j_stf (j_stf (j_stf (j_stf (j_stf (j_stf (j_stf (j_stf (j_stf (j_stf (j_stf (j_stf (j_stf jh2 11 0 (.int (((Int32.toUInt32 a1) >>> ((Int32.toUInt32 24) &&& Int32.toUInt32 31)).toInt32 &&& 255))) 10 1 (.int 1)) 11 1 (.int (((Int32.toUInt32 a1) >>> ((Int32.toUInt32 16) &&& Int32.toUInt32 31)).toInt32 &&& 255))) 10 1 (.int 2)) 11 2 (.int (((Int32.toUInt32 a1) >>> ((Int32.toUInt32 8) &&& Int32.toUInt32 31)).toInt32 &&& 255))) 10 1 (.int 3)) 11 3 (.int (((Int32.toUInt32 a1) >>> ((Int32.toUInt32 0) &&& Int32.toUInt32 31)).toInt32 &&& 255))) 10 1 (.int 4)) 11 4 (.int (((Int32.toUInt32 a2) >>> ((Int32.toUInt32 24) &&& Int32.toUInt32 31)).toInt32 &&& 255))) 10 1 (.int 5)) 11 5 (.int (((Int32.toUInt32 a2) >>> ((Int32.toUInt32 16) &&& Int32.toUInt32 31)).toInt32 &&& 255))) 10 1 (.int 6)) 11 6 (.int (((Int32.toUInt32 a2) >>> ((Int32.toUInt32 8) &&& Int32.toUInt32 31)).toInt32 &&& 255))) 10 1 (.int 7)) 11 7 (.int (((Int32.toUInt32 a2) >>> ((Int32.toUInt32 0) &&& Int32.toUInt32 31)).toInt32 &&& 255))) 10 1 (.int 8)) 11 8 (.int (((Int32.toUInt32 a3) >>> ((Int32.toUInt32 24) &&& Int32.toUInt32 31)).toInt32 &&& 255))) 10 1 (.int 9)) 11 9 (.int (((Int32.toUInt32 a3) >>> ((Int32.toUInt32 16) &&& Int32.toUInt32 31)).toInt32 &&& 255))) 10 1 (.int 10)) 11 10 (.int (((Int32.toUInt32 a3) >>> ((Int32.toUInt32 8) &&& Int32.toUInt32 31)).toInt32 &&& 255))) 10 1 (.int 11)) 11 11 (.int (((Int32.toUInt32 a3) >>> ((Int32.toUInt32 0) &&& Int32.toUInt32 31)).toInt32 &&& 255))) 10 1 (.int 12)) 11 12 (.int (((Int32.toUInt32 a4) >>> ((Int32.toUInt32 24) &&& Int32.toUInt32 31)).toInt32 &&& 255))) 10 1 (.int 13)) 11 13 (.int (((Int32.toUInt32 a4) >>> ((Int32.toUInt32 16) &&& Int32.toUInt32 31)).toInt32 &&& 255))) 10 1 (.int 14)) 11 14 (.int (((Int32.toUInt32 a4) >>> ((Int32.toUInt32 8) &&& Int32.toUInt32 31)).toInt32 &&& 255))) 10 1 (.int 15)) 11 15 (.int (((Int32.toUInt32 a4) >>> ((Int32.toUInt32 0) &&& Int32.toUInt32 31)).toInt32 &&& 255))) 10 1 (.int 16))) (fr2 := 499) (lo2 := 19978) jF_24_52 (rfl) rfl (show j_cnd 500 20000 499 19978 3 _ _ = true from rfl) ?_) ?_
    · refine Eq.trans (jr_s (pc2 := 2) (lv2 := [(0, .ref 10), (1, .int a4)]) (st2 := [.int 24]) jF_26_0 rfl rfl) ?_
      refine Eq.trans (jr_s (pc2 := 3) (lv2 := [(2, .int 24), (0, .ref 10), (1, .int a4)]) (st2 := []) jF_26_2 rfl rfl) ?_
      refine Eq.trans (jr_s (pc2 := 4) (lv2 := [(2, .int 24), (0, .ref 10), (1, .int a4)]) (st2 := [.int 24]) jF_26_3 rfl rfl) ?_
      refine Eq.trans (jr_if0 jF_26_4 (by decide +kernel)) ?_
      refine Eq.trans (jr_s (pc2 := 8) (lv2 := [(2, .int 24), (0, .ref 10), (1, .int a4)]) (st2 := [.ref 10]) jF_26_7 rfl rfl) ?_
      refine Eq.trans (jr_gf (v := .int 12) jF_26_8 (rfl)) ?_
      refine Eq.trans (jr_s (pc2 := 14) (lv2 := [(2, .int 24), (0, .ref 10), (1, .int a4)]) (st2 := [.int 1600, .int 12]) jF_26_11 rfl rfl) ?_
      refine Eq.trans (jr_ic0 jF_26_14 (by decide +kernel)) ?_
      refine Eq.trans (jr_s (pc2 := 18) (lv2 := [(2, .int 24), (0, .ref 10), (1, .int a4)]) (st2 := [.ref 10]) jF_26_17 rfl rfl) ?_
      refine Eq.trans (jr_gf (v := .ref 11) jF_26_18 (rfl)) ?_
      refine Eq.trans (jr_s (pc2 := 22) (lv2 := [(2, .int 24), (0, .ref 10), (1, .int a4)]) (st2 := [.ref 10, .ref 11]) jF_26_21 rfl rfl) ?_
      refine Eq.trans (jr_gf (v := .int 12) jF_26_22 (rfl)) ?_
      refine Eq.trans (jr_s (pc2 := 26) (lv2 := [(2, .int 24), (0, .ref 10), (1, .int a4)]) (st2 := [.int a4, .int 12, .ref 11]) jF_26_25 rfl rfl) ?_
      refine Eq.trans (jr_s (pc2 := 27) (lv2 := [(2, .int 24), (0, .ref 10), (1, .int a4)]) (st2 := [.int 24, .int a4, .int 12, .ref 11]) jF_26_26 rfl rfl) ?_
      refine Eq.trans (jr_s (pc2 := 28) (lv2 := [(2, .int 24), (0, .ref 10), (1, .int a4)]) (st2 := [.int ((Int32.toUInt32 a4) >>> ((Int32.toUInt32 24) &&& Int32.toUInt32 31)).toInt32, .int 12, .ref 11]) jF_26_27 rfl rfl) ?_
      refine Eq.trans (jr_s (pc2 := 31) (lv2 := [(2, .int 24), (0, .ref 10), (1, .int a4)]) (st2 := [.int 255, .int ((Int32.toUInt32 a4) >>> ((Int32.toUInt32 24) &&& Int32.toUInt32 31)).toInt32, .int 12, .ref 11]) jF_26_28 rfl rfl) ?_
      refine Eq.trans (jr_s (pc2 := 32) (lv2 := [(2, .int 24), (0, .ref 10), (1, .int a4)]) (st2 := [.int (((Int32.toUInt32 a4) >>> ((Int32.toUInt32 24) &&& Int32.toUInt32 31)).toInt32 &&& 255), .int 12, .ref 11]) jF_26_31 rfl rfl) ?_
      refine Eq.trans (jr_sti (q := 12) jF_26_32 (rfl) (by decide +kernel)) ?_
      refine Eq.trans (jr_s (pc2 := 34) (lv2 := [(2, .int 24), (0, .ref 10), (1, .int a4)]) (st2 := [.ref 10]) jF_26_33 rfl rfl) ?_
      refine Eq.trans (jr_s (pc2 := 35) (lv2 := [(2, .int 24), (0, .ref 10), (1, .int a4)]) (st2 := [.ref 10, .ref 10]) jF_26_34 rfl rfl) ?_
      refine Eq.trans (jr_gf (v := .int 12) jF_26_35 (rfl)) ?_
      refine Eq.trans (jr_s (pc2 := 39) (lv2 := [(2, .int 24), (0, .ref 10), (1, .int a4)]) (st2 := [.int 1, .int 12, .ref 10]) jF_26_38 rfl rfl) ?_
      refine Eq.trans (jr_s (pc2 := 40) (lv2 := [(2, .int 24), (0, .ref 10), (1, .int a4)]) (st2 := [.int 13, .ref 10]) jF_26_39 rfl rfl) ?_
      refine Eq.trans (jr_pf jF_26_40 (rfl) rfl) ?_
      refine Eq.trans (jr_s (pc2 := 46) (lv2 := [(2, .int 16), (0, .ref 10), (1, .int a4)]) (st2 := []) jF_26_43 rfl rfl) ?_
      refine Eq.trans (jr_s (pc2 := 3) (lv2 := [(2, .int 16), (0, .ref 10), (1, .int a4)]) (st2 := []) jF_26_46 rfl rfl) ?_
      refine Eq.trans (jr_s (pc2 := 4) (lv2 := [(2, .int 16), (0, .ref 10), (1, .int a4)]) (st2 := [.int 16]) jF_26_3 rfl rfl) ?_
      refine Eq.trans (jr_if0 jF_26_4 (by decide +kernel)) ?_
      refine Eq.trans (jr_s (pc2 := 8) (lv2 := [(2, .int 16), (0, .ref 10), (1, .int a4)]) (st2 := [.ref 10]) jF_26_7 rfl rfl) ?_
      refine Eq.trans (jr_gf (v := .int 13) jF_26_8 (rfl)) ?_
      refine Eq.trans (jr_s (pc2 := 14) (lv2 := [(2, .int 16), (0, .ref 10), (1, .int a4)]) (st2 := [.int 1600, .int 13]) jF_26_11 rfl rfl) ?_
      refine Eq.trans (jr_ic0 jF_26_14 (by decide +kernel)) ?_
      refine Eq.trans (jr_s (pc2 := 18) (lv2 := [(2, .int 16), (0, .ref 10), (1, .int a4)]) (st2 := [.ref 10]) jF_26_17 rfl rfl) ?_
      refine Eq.trans (jr_gf (v := .ref 11) jF_26_18 (rfl)) ?_
      refine Eq.trans (jr_s (pc2 := 22) (lv2 := [(2, .int 16), (0, .ref 10), (1, .int a4)]) (st2 := [.ref 10, .ref 11]) jF_26_21 rfl rfl) ?_
      refine Eq.trans (jr_gf (v := .int 13) jF_26_22 (rfl)) ?_
      refine Eq.trans (jr_s (pc2 := 26) (lv2 := [(2, .int 16), (0, .ref 10), (1, .int a4)]) (st2 := [.int a4, .int 13, .ref 11]) jF_26_25 rfl rfl) ?_
      refine Eq.trans (jr_s (pc2 := 27) (lv2 := [(2, .int 16), (0, .ref 10), (1, .int a4)]) (st2 := [.int 16, .int a4, .int 13, .ref 11]) jF_26_26 rfl rfl) ?_
      refine Eq.trans (jr_s (pc2 := 28) (lv2 := [(2, .int 16), (0, .ref 10), (1, .int a4)]) (st2 := [.int ((Int32.toUInt32 a4) >>> ((Int32.toUInt32 16) &&& Int32.toUInt32 31)).toInt32, .int 13, .ref 11]) jF_26_27 rfl rfl) ?_
      refine Eq.trans (jr_s (pc2 := 31) (lv2 := [(2, .int 16), (0, .ref 10), (1, .int a4)]) (st2 := [.int 255, .int ((Int32.toUInt32 a4) >>> ((Int32.toUInt32 16) &&& Int32.toUInt32 31)).toInt32, .int 13, .ref 11]) jF_26_28 rfl rfl) ?_
      refine Eq.trans (jr_s (pc2 := 32) (lv2 := [(2, .int 16), (0, .ref 10), (1, .int a4)]) (st2 := [.int (((Int32.toUInt32 a4) >>> ((Int32.toUInt32 16) &&& Int32.toUInt32 31)).toInt32 &&& 255), .int 13, .ref 11]) jF_26_31 rfl rfl) ?_
      refine Eq.trans (jr_sti (q := 13) jF_26_32 (rfl) (by decide +kernel)) ?_
      refine Eq.trans (jr_s (pc2 := 34) (lv2 := [(2, .int 16), (0, .ref 10), (1, .int a4)]) (st2 := [.ref 10]) jF_26_33 rfl rfl) ?_
      refine Eq.trans (jr_s (pc2 := 35) (lv2 := [(2, .int 16), (0, .ref 10), (1, .int a4)]) (st2 := [.ref 10, .ref 10]) jF_26_34 rfl rfl) ?_
      refine Eq.trans (jr_gf (v := .int 13) jF_26_35 (rfl)) ?_
      refine Eq.trans (jr_s (pc2 := 39) (lv2 := [(2, .int 16), (0, .ref 10), (1, .int a4)]) (st2 := [.int 1, .int 13, .ref 10]) jF_26_38 rfl rfl) ?_
      refine Eq.trans (jr_s (pc2 := 40) (lv2 := [(2, .int 16), (0, .ref 10), (1, .int a4)]) (st2 := [.int 14, .ref 10]) jF_26_39 rfl rfl) ?_
      refine Eq.trans (jr_pf jF_26_40 (rfl) rfl) ?_
      refine Eq.trans (jr_s (pc2 := 46) (lv2 := [(2, .int 8), (0, .ref 10), (1, .int a4)]) (st2 := []) jF_26_43 rfl rfl) ?_
      refine Eq.trans (jr_s (pc2 := 3) (lv2 := [(2, .int 8), (0, .ref 10), (1, .int a4)]) (st2 := []) jF_26_46 rfl rfl) ?_
      refine Eq.trans (jr_s (pc2 := 4) (lv2 := [(2, .int 8), (0, .ref 10), (1, .int a4)]) (st2 := [.int 8]) jF_26_3 rfl rfl) ?_
      refine Eq.trans (jr_if0 jF_26_4 (by decide +kernel)) ?_
      refine Eq.trans (jr_s (pc2 := 8) (lv2 := [(2, .int 8), (0, .ref 10), (1, .int a4)]) (st2 := [.ref 10]) jF_26_7 rfl rfl) ?_
      refine Eq.trans (jr_gf (v := .int 14) jF_26_8 (rfl)) ?_
      refine Eq.trans (jr_s (pc2 := 14) (lv2 := [(2, .int 8), (0, .ref 10), (1, .int a4)]) (st2 := [.int 1600, .int 14]) jF_26_11 rfl rfl) ?_
      refine Eq.trans (jr_ic0 jF_26_14 (by decide +kernel)) ?_
      refine Eq.trans (jr_s (pc2 := 18) (lv2 := [(2, .int 8), (0, .ref 10), (1, .int a4)]) (st2 := [.ref 10]) jF_26_17 rfl rfl) ?_
      refine Eq.trans (jr_gf (v := .ref 11) jF_26_18 (rfl)) ?_
      refine Eq.trans (jr_s (pc2 := 22) (lv2 := [(2, .int 8), (0, .ref 10), (1, .int a4)]) (st2 := [.ref 10, .ref 11]) jF_26_21 rfl rfl) ?_
      refine Eq.trans (jr_gf (v := .int 14) jF_26_22 (rfl)) ?_
      refine Eq.trans (jr_s (pc2 := 26) (lv2 := [(2, .int 8), (0, .ref 10), (1, .int a4)]) (st2 := [.int a4, .int 14, .ref 11]) jF_26_25 rfl rfl) ?_
      refine Eq.trans (jr_s (pc2 := 27) (lv2 := [(2, .int 8), (0, .ref 10), (1, .int a4)]) (st2 := [.int 8, .int a4, .int 14, .ref 11]) jF_26_26 rfl rfl) ?_
      refine Eq.trans (jr_s (pc2 := 28) (lv2 := [(2, .int 8), (0, .ref 10), (1, .int a4)]) (st2 := [.int ((Int32.toUInt32 a4) >>> ((Int32.toUInt32 8) &&& Int32.toUInt32 31)).toInt32, .int 14, .ref 11]) jF_26_27 rfl rfl) ?_
      refine Eq.trans (jr_s (pc2 := 31) (lv2 := [(2, .int 8), (0, .ref 10), (1, .int a4)]) (st2 := [.int 255, .int ((Int32.toUInt32 a4) >>> ((Int32.toUInt32 8) &&& Int32.toUInt32 31)).toInt32, .int 14, .ref 11]) jF_26_28 rfl rfl) ?_
      refine Eq.trans (jr_s (pc2 := 32) (lv2 := [(2, .int 8), (0, .ref 10), (1, .int a4)]) (st2 := [.int (((Int32.toUInt32 a4) >>> ((Int32.toUInt32 8) &&& Int32.toUInt32 31)).toInt32 &&& 255), .int 14, .ref 11]) jF_26_31 rfl rfl) ?_
      refine Eq.trans (jr_sti (q := 14) jF_26_32 (rfl) (by decide +kernel)) ?_
      refine Eq.trans (jr_s (pc2 := 34) (lv2 := [(2, .int 8), (0, .ref 10), (1, .int a4)]) (st2 := [.ref 10]) jF_26_33 rfl rfl) ?_
      refine Eq.trans (jr_s (pc2 := 35) (lv2 := [(2, .int 8), (0, .ref 10), (1, .int a4)]) (st2 := [.ref 10, .ref 10]) jF_26_34 rfl rfl) ?_
      refine Eq.trans (jr_gf (v := .int 14) jF_26_35 (rfl)) ?_
      refine Eq.trans (jr_s (pc2 := 39) (lv2 := [(2, .int 8), (0, .ref 10), (1, .int a4)]) (st2 := [.int 1, .int 14, .ref 10]) jF_26_38 rfl rfl) ?_
      refine Eq.trans (jr_s (pc2 := 40) (lv2 := [(2, .int 8), (0, .ref 10), (1, .int a4)]) (st2 := [.int 15, .ref 10]) jF_26_39 rfl rfl) ?_
      refine Eq.trans (jr_pf jF_26_40 (rfl) rfl) ?_
      refine Eq.trans (jr_s (pc2 := 46) (lv2 := [(2, .int 0), (0, .ref 10), (1, .int a4)]) (st2 := []) jF_26_43 rfl rfl) ?_
      refine Eq.trans (jr_s (pc2 := 3) (lv2 := [(2, .int 0), (0, .ref 10), (1, .int a4)]) (st2 := []) jF_26_46 rfl rfl) ?_
      refine Eq.trans (jr_s (pc2 := 4) (lv2 := [(2, .int 0), (0, .ref 10), (1, .int a4)]) (st2 := [.int 0]) jF_26_3 rfl rfl) ?_
      refine Eq.trans (jr_if0 jF_26_4 (by decide +kernel)) ?_
      refine Eq.trans (jr_s (pc2 := 8) (lv2 := [(2, .int 0), (0, .ref 10), (1, .int a4)]) (st2 := [.ref 10]) jF_26_7 rfl rfl) ?_
      refine Eq.trans (jr_gf (v := .int 15) jF_26_8 (rfl)) ?_
      refine Eq.trans (jr_s (pc2 := 14) (lv2 := [(2, .int 0), (0, .ref 10), (1, .int a4)]) (st2 := [.int 1600, .int 15]) jF_26_11 rfl rfl) ?_
      refine Eq.trans (jr_ic0 jF_26_14 (by decide +kernel)) ?_
      refine Eq.trans (jr_s (pc2 := 18) (lv2 := [(2, .int 0), (0, .ref 10), (1, .int a4)]) (st2 := [.ref 10]) jF_26_17 rfl rfl) ?_
      refine Eq.trans (jr_gf (v := .ref 11) jF_26_18 (rfl)) ?_
      refine Eq.trans (jr_s (pc2 := 22) (lv2 := [(2, .int 0), (0, .ref 10), (1, .int a4)]) (st2 := [.ref 10, .ref 11]) jF_26_21 rfl rfl) ?_
      refine Eq.trans (jr_gf (v := .int 15) jF_26_22 (rfl)) ?_
      refine Eq.trans (jr_s (pc2 := 26) (lv2 := [(2, .int 0), (0, .ref 10), (1, .int a4)]) (st2 := [.int a4, .int 15, .ref 11]) jF_26_25 rfl rfl) ?_
      refine Eq.trans (jr_s (pc2 := 27) (lv2 := [(2, .int 0), (0, .ref 10), (1, .int a4)]) (st2 := [.int 0, .int a4, .int 15, .ref 11]) jF_26_26 rfl rfl) ?_
      refine Eq.trans (jr_s (pc2 := 28) (lv2 := [(2, .int 0), (0, .ref 10), (1, .int a4)]) (st2 := [.int ((Int32.toUInt32 a4) >>> ((Int32.toUInt32 0) &&& Int32.toUInt32 31)).toInt32, .int 15, .ref 11]) jF_26_27 rfl rfl) ?_
      refine Eq.trans (jr_s (pc2 := 31) (lv2 := [(2, .int 0), (0, .ref 10), (1, .int a4)]) (st2 := [.int 255, .int ((Int32.toUInt32 a4) >>> ((Int32.toUInt32 0) &&& Int32.toUInt32 31)).toInt32, .int 15, .ref 11]) jF_26_28 rfl rfl) ?_
      refine Eq.trans (jr_s (pc2 := 32) (lv2 := [(2, .int 0), (0, .ref 10), (1, .int a4)]) (st2 := [.int (((Int32.toUInt32 a4) >>> ((Int32.toUInt32 0) &&& Int32.toUInt32 31)).toInt32 &&& 255), .int 15, .ref 11]) jF_26_31 rfl rfl) ?_
      refine Eq.trans (jr_sti (q := 15) jF_26_32 (rfl) (by decide +kernel)) ?_
      refine Eq.trans (jr_s (pc2 := 34) (lv2 := [(2, .int 0), (0, .ref 10), (1, .int a4)]) (st2 := [.ref 10]) jF_26_33 rfl rfl) ?_
      refine Eq.trans (jr_s (pc2 := 35) (lv2 := [(2, .int 0), (0, .ref 10), (1, .int a4)]) (st2 := [.ref 10, .ref 10]) jF_26_34 rfl rfl) ?_
      refine Eq.trans (jr_gf (v := .int 15) jF_26_35 (rfl)) ?_
      refine Eq.trans (jr_s (pc2 := 39) (lv2 := [(2, .int 0), (0, .ref 10), (1, .int a4)]) (st2 := [.int 1, .int 15, .ref 10]) jF_26_38 rfl rfl) ?_
      refine Eq.trans (jr_s (pc2 := 40) (lv2 := [(2, .int 0), (0, .ref 10), (1, .int a4)]) (st2 := [.int 16, .ref 10]) jF_26_39 rfl rfl) ?_
      refine Eq.trans (jr_pf jF_26_40 (rfl) rfl) ?_
      refine Eq.trans (jr_s (pc2 := 46) (lv2 := [(2, .int (-8)), (0, .ref 10), (1, .int a4)]) (st2 := []) jF_26_43 rfl rfl) ?_
      refine Eq.trans (jr_s (pc2 := 3) (lv2 := [(2, .int (-8)), (0, .ref 10), (1, .int a4)]) (st2 := []) jF_26_46 rfl rfl) ?_
      refine Eq.trans (jr_s (pc2 := 4) (lv2 := [(2, .int (-8)), (0, .ref 10), (1, .int a4)]) (st2 := [.int (-8)]) jF_26_3 rfl rfl) ?_
      refine Eq.trans (jr_if1 jF_26_4 (by decide +kernel)) ?_
      exact jr_rr jF_26_49
    refine Eq.trans (jr_s (pc2 := 56) (lv2 := [(0, .ref 9), (1, .int a1), (2, .int a2), (3, .int a3), (4, .int a4), (5, .int a5)]) (st2 := [.ref 9]) jF_24_55 rfl rfl) ?_
    refine Eq.trans (jr_gf (v := .ref 10) jF_24_56 (rfl)) ?_
    refine Eq.trans (jr_s (pc2 := 61) (lv2 := [(0, .ref 9), (1, .int a1), (2, .int a2), (3, .int a3), (4, .int a4), (5, .int a5)]) (st2 := [.int a5, .ref 10]) jF_24_59 rfl rfl) ?_
    refine Eq.trans (jr_cV (a := 10) (as := [.int a5]) (rest := []) (v := none) (hp2 := (j_stf (j_stf (j_stf (j_stf (j_stf (j_stf (j_stf (j_stf (j_stf (j_stf (j_stf (j_stf (j_stf (j_stf (j_stf (j_stf (j_stf (j_stf (j_stf (j_stf (j_stf (j_stf (j_stf (j_stf (j_stf (j_stf (j_stf (j_stf (j_stf (j_stf (j_stf (j_stf (j_stf (j_stf (j_stf (j_stf (j_stf (j_stf (j_stf (j_stf jh2 11 0 (.int (((Int32.toUInt32 a1) >>> ((Int32.toUInt32 24) &&& Int32.toUInt32 31)).toInt32 &&& 255))) 10 1 (.int 1)) 11 1 (.int (((Int32.toUInt32 a1) >>> ((Int32.toUInt32 16) &&& Int32.toUInt32 31)).toInt32 &&& 255))) 10 1 (.int 2)) 11 2 (.int (((Int32.toUInt32 a1) >>> ((Int32.toUInt32 8) &&& Int32.toUInt32 31)).toInt32 &&& 255))) 10 1 (.int 3)) 11 3 (.int (((Int32.toUInt32 a1) >>> ((Int32.toUInt32 0) &&& Int32.toUInt32 31)).toInt32 &&& 255))) 10 1 (.int 4)) 11 4 (.int (((Int32.toUInt32 a2) >>> ((Int32.toUInt32 24) &&& Int32.toUInt32 31)).toInt32 &&& 255))) 10 1 (.int 5)) 11 5 (.int (((Int32.toUInt32 a2) >>> ((Int32.toUInt32 16) &&& Int32.toUInt32 31)).toInt32 &&& 255))) 10 1 (.int 6)) 11 6 (.int (((Int32.toUInt32 a2) >>> ((Int32.toUInt32 8) &&& Int32.toUInt32 31)).toInt32 &&& 255))) 10 1 (.int 7)) 11 7 (.int (((Int32.toUInt32 a2) >>> ((Int32.toUInt32 0) &&& Int32.toUInt32 31)).toInt32 &&& 255))) 10 1 (.int 8)) 11 8 (.int (((Int32.toUInt32 a3) >>> ((Int32.toUInt32 24) &&& Int32.toUInt32 31)).toInt32 &&& 255))) 10 1 (.int 9)) 11 9 (.int (((Int32.toUInt32 a3) >>> ((Int32.toUInt32 16) &&& Int32.toUInt32 31)).toInt32 &&& 255))) 10 1 (.int 10)) 11 10 (.int (((Int32.toUInt32 a3) >>> ((Int32.toUInt32 8) &&& Int32.toUInt32 31)).toInt32 &&& 255))) 10 1 (.int 11)) 11 11 (.int (((Int32.toUInt32 a3) >>> ((Int32.toUInt32 0) &&& Int32.toUInt32 31)).toInt32 &&& 255))) 10 1 (.int 12)) 11 12 (.int (((Int32.toUInt32 a4) >>> ((Int32.toUInt32 24) &&& Int32.toUInt32 31)).toInt32 &&& 255))) 10 1 (.int 13)) 11 13 (.int (((Int32.toUInt32 a4) >>> ((Int32.toUInt32 16) &&& Int32.toUInt32 31)).toInt32 &&& 255))) 10 1 (.int 14)) 11 14 (.int (((Int32.toUInt32 a4) >>> ((Int32.toUInt32 8) &&& Int32.toUInt32 31)).toInt32 &&& 255))) 10 1 (.int 15)) 11 15 (.int (((Int32.toUInt32 a4) >>> ((Int32.toUInt32 0) &&& Int32.toUInt32 31)).toInt32 &&& 255))) 10 1 (.int 16)) 11 16 (.int (((Int32.toUInt32 a5) >>> ((Int32.toUInt32 24) &&& Int32.toUInt32 31)).toInt32 &&& 255))) 10 1 (.int 17)) 11 17 (.int (((Int32.toUInt32 a5) >>> ((Int32.toUInt32 16) &&& Int32.toUInt32 31)).toInt32 &&& 255))) 10 1 (.int 18)) 11 18 (.int (((Int32.toUInt32 a5) >>> ((Int32.toUInt32 8) &&& Int32.toUInt32 31)).toInt32 &&& 255))) 10 1 (.int 19)) 11 19 (.int (((Int32.toUInt32 a5) >>> ((Int32.toUInt32 0) &&& Int32.toUInt32 31)).toInt32 &&& 255))) 10 1 (.int 20))) (fr2 := 499) (lo2 := 19978) jF_24_61 (rfl) rfl (show j_cnd 500 20000 499 19978 3 _ _ = true from rfl) ?_) ?_
    · refine Eq.trans (jr_s (pc2 := 2) (lv2 := [(0, .ref 10), (1, .int a5)]) (st2 := [.int 24]) jF_26_0 rfl rfl) ?_
      refine Eq.trans (jr_s (pc2 := 3) (lv2 := [(2, .int 24), (0, .ref 10), (1, .int a5)]) (st2 := []) jF_26_2 rfl rfl) ?_
      refine Eq.trans (jr_s (pc2 := 4) (lv2 := [(2, .int 24), (0, .ref 10), (1, .int a5)]) (st2 := [.int 24]) jF_26_3 rfl rfl) ?_
      refine Eq.trans (jr_if0 jF_26_4 (by decide +kernel)) ?_
      refine Eq.trans (jr_s (pc2 := 8) (lv2 := [(2, .int 24), (0, .ref 10), (1, .int a5)]) (st2 := [.ref 10]) jF_26_7 rfl rfl) ?_
      refine Eq.trans (jr_gf (v := .int 16) jF_26_8 (rfl)) ?_
      refine Eq.trans (jr_s (pc2 := 14) (lv2 := [(2, .int 24), (0, .ref 10), (1, .int a5)]) (st2 := [.int 1600, .int 16]) jF_26_11 rfl rfl) ?_
      refine Eq.trans (jr_ic0 jF_26_14 (by decide +kernel)) ?_
      refine Eq.trans (jr_s (pc2 := 18) (lv2 := [(2, .int 24), (0, .ref 10), (1, .int a5)]) (st2 := [.ref 10]) jF_26_17 rfl rfl) ?_
      refine Eq.trans (jr_gf (v := .ref 11) jF_26_18 (rfl)) ?_
      refine Eq.trans (jr_s (pc2 := 22) (lv2 := [(2, .int 24), (0, .ref 10), (1, .int a5)]) (st2 := [.ref 10, .ref 11]) jF_26_21 rfl rfl) ?_
      refine Eq.trans (jr_gf (v := .int 16) jF_26_22 (rfl)) ?_
      refine Eq.trans (jr_s (pc2 := 26) (lv2 := [(2, .int 24), (0, .ref 10), (1, .int a5)]) (st2 := [.int a5, .int 16, .ref 11]) jF_26_25 rfl rfl) ?_
      refine Eq.trans (jr_s (pc2 := 27) (lv2 := [(2, .int 24), (0, .ref 10), (1, .int a5)]) (st2 := [.int 24, .int a5, .int 16, .ref 11]) jF_26_26 rfl rfl) ?_
      refine Eq.trans (jr_s (pc2 := 28) (lv2 := [(2, .int 24), (0, .ref 10), (1, .int a5)]) (st2 := [.int ((Int32.toUInt32 a5) >>> ((Int32.toUInt32 24) &&& Int32.toUInt32 31)).toInt32, .int 16, .ref 11]) jF_26_27 rfl rfl) ?_
      refine Eq.trans (jr_s (pc2 := 31) (lv2 := [(2, .int 24), (0, .ref 10), (1, .int a5)]) (st2 := [.int 255, .int ((Int32.toUInt32 a5) >>> ((Int32.toUInt32 24) &&& Int32.toUInt32 31)).toInt32, .int 16, .ref 11]) jF_26_28 rfl rfl) ?_
      refine Eq.trans (jr_s (pc2 := 32) (lv2 := [(2, .int 24), (0, .ref 10), (1, .int a5)]) (st2 := [.int (((Int32.toUInt32 a5) >>> ((Int32.toUInt32 24) &&& Int32.toUInt32 31)).toInt32 &&& 255), .int 16, .ref 11]) jF_26_31 rfl rfl) ?_
      refine Eq.trans (jr_sti (q := 16) jF_26_32 (rfl) (by decide +kernel)) ?_
      refine Eq.trans (jr_s (pc2 := 34) (lv2 := [(2, .int 24), (0, .ref 10), (1, .int a5)]) (st2 := [.ref 10]) jF_26_33 rfl rfl) ?_
      refine Eq.trans (jr_s (pc2 := 35) (lv2 := [(2, .int 24), (0, .ref 10), (1, .int a5)]) (st2 := [.ref 10, .ref 10]) jF_26_34 rfl rfl) ?_
      refine Eq.trans (jr_gf (v := .int 16) jF_26_35 (rfl)) ?_
      refine Eq.trans (jr_s (pc2 := 39) (lv2 := [(2, .int 24), (0, .ref 10), (1, .int a5)]) (st2 := [.int 1, .int 16, .ref 10]) jF_26_38 rfl rfl) ?_
      refine Eq.trans (jr_s (pc2 := 40) (lv2 := [(2, .int 24), (0, .ref 10), (1, .int a5)]) (st2 := [.int 17, .ref 10]) jF_26_39 rfl rfl) ?_
      refine Eq.trans (jr_pf jF_26_40 (rfl) rfl) ?_
      refine Eq.trans (jr_s (pc2 := 46) (lv2 := [(2, .int 16), (0, .ref 10), (1, .int a5)]) (st2 := []) jF_26_43 rfl rfl) ?_
      refine Eq.trans (jr_s (pc2 := 3) (lv2 := [(2, .int 16), (0, .ref 10), (1, .int a5)]) (st2 := []) jF_26_46 rfl rfl) ?_
      refine Eq.trans (jr_s (pc2 := 4) (lv2 := [(2, .int 16), (0, .ref 10), (1, .int a5)]) (st2 := [.int 16]) jF_26_3 rfl rfl) ?_
      refine Eq.trans (jr_if0 jF_26_4 (by decide +kernel)) ?_
      refine Eq.trans (jr_s (pc2 := 8) (lv2 := [(2, .int 16), (0, .ref 10), (1, .int a5)]) (st2 := [.ref 10]) jF_26_7 rfl rfl) ?_
      refine Eq.trans (jr_gf (v := .int 17) jF_26_8 (rfl)) ?_
      refine Eq.trans (jr_s (pc2 := 14) (lv2 := [(2, .int 16), (0, .ref 10), (1, .int a5)]) (st2 := [.int 1600, .int 17]) jF_26_11 rfl rfl) ?_
      refine Eq.trans (jr_ic0 jF_26_14 (by decide +kernel)) ?_
      refine Eq.trans (jr_s (pc2 := 18) (lv2 := [(2, .int 16), (0, .ref 10), (1, .int a5)]) (st2 := [.ref 10]) jF_26_17 rfl rfl) ?_
      refine Eq.trans (jr_gf (v := .ref 11) jF_26_18 (rfl)) ?_
      refine Eq.trans (jr_s (pc2 := 22) (lv2 := [(2, .int 16), (0, .ref 10), (1, .int a5)]) (st2 := [.ref 10, .ref 11]) jF_26_21 rfl rfl) ?_
      refine Eq.trans (jr_gf (v := .int 17) jF_26_22 (rfl)) ?_
      refine Eq.trans (jr_s (pc2 := 26) (lv2 := [(2, .int 16), (0, .ref 10), (1, .int a5)]) (st2 := [.int a5, .int 17, .ref 11]) jF_26_25 rfl rfl) ?_
      refine Eq.trans (jr_s (pc2 := 27) (lv2 := [(2, .int 16), (0, .ref 10), (1, .int a5)]) (st2 := [.int 16, .int a5, .int 17, .ref 11]) jF_26_26 rfl rfl) ?_
      refine Eq.trans (jr_s (pc2 := 28) (lv2 := [(2, .int 16), (0, .ref 10), (1, .int a5)]) (st2 := [.int ((Int32.toUInt32 a5) >>> ((Int32.toUInt32 16) &&& Int32.toUInt32 31)).toInt32, .int 17, .ref 11]) jF_26_27 rfl rfl) ?_
      refine Eq.trans (jr_s (pc2 := 31) (lv2 := [(2, .int 16), (0, .ref 10), (1, .int a5)]) (st2 := [.int 255, .int ((Int32.toUInt32 a5) >>> ((Int32.toUInt32 16) &&& Int32.toUInt32 31)).toInt32, .int 17, .ref 11]) jF_26_28 rfl rfl) ?_
      refine Eq.trans (jr_s (pc2 := 32) (lv2 := [(2, .int 16), (0, .ref 10), (1, .int a5)]) (st2 := [.int (((Int32.toUInt32 a5) >>> ((Int32.toUInt32 16) &&& Int32.toUInt32 31)).toInt32 &&& 255), .int 17, .ref 11]) jF_26_31 rfl rfl) ?_
      refine Eq.trans (jr_sti (q := 17) jF_26_32 (rfl) (by decide +kernel)) ?_
      refine Eq.trans (jr_s (pc2 := 34) (lv2 := [(2, .int 16), (0, .ref 10), (1, .int a5)]) (st2 := [.ref 10]) jF_26_33 rfl rfl) ?_
      refine Eq.trans (jr_s (pc2 := 35) (lv2 := [(2, .int 16), (0, .ref 10), (1, .int a5)]) (st2 := [.ref 10, .ref 10]) jF_26_34 rfl rfl) ?_
      refine Eq.trans (jr_gf (v := .int 17) jF_26_35 (rfl)) ?_
      refine Eq.trans (jr_s (pc2 := 39) (lv2 := [(2, .int 16), (0, .ref 10), (1, .int a5)]) (st2 := [.int 1, .int 17, .ref 10]) jF_26_38 rfl rfl) ?_
      refine Eq.trans (jr_s (pc2 := 40) (lv2 := [(2, .int 16), (0, .ref 10), (1, .int a5)]) (st2 := [.int 18, .ref 10]) jF_26_39 rfl rfl) ?_
      refine Eq.trans (jr_pf jF_26_40 (rfl) rfl) ?_
      refine Eq.trans (jr_s (pc2 := 46) (lv2 := [(2, .int 8), (0, .ref 10), (1, .int a5)]) (st2 := []) jF_26_43 rfl rfl) ?_
      refine Eq.trans (jr_s (pc2 := 3) (lv2 := [(2, .int 8), (0, .ref 10), (1, .int a5)]) (st2 := []) jF_26_46 rfl rfl) ?_
      refine Eq.trans (jr_s (pc2 := 4) (lv2 := [(2, .int 8), (0, .ref 10), (1, .int a5)]) (st2 := [.int 8]) jF_26_3 rfl rfl) ?_
      refine Eq.trans (jr_if0 jF_26_4 (by decide +kernel)) ?_
      refine Eq.trans (jr_s (pc2 := 8) (lv2 := [(2, .int 8), (0, .ref 10), (1, .int a5)]) (st2 := [.ref 10]) jF_26_7 rfl rfl) ?_
      refine Eq.trans (jr_gf (v := .int 18) jF_26_8 (rfl)) ?_
      refine Eq.trans (jr_s (pc2 := 14) (lv2 := [(2, .int 8), (0, .ref 10), (1, .int a5)]) (st2 := [.int 1600, .int 18]) jF_26_11 rfl rfl) ?_
      refine Eq.trans (jr_ic0 jF_26_14 (by decide +kernel)) ?_
      refine Eq.trans (jr_s (pc2 := 18) (lv2 := [(2, .int 8), (0, .ref 10), (1, .int a5)]) (st2 := [.ref 10]) jF_26_17 rfl rfl) ?_
      refine Eq.trans (jr_gf (v := .ref 11) jF_26_18 (rfl)) ?_
      refine Eq.trans (jr_s (pc2 := 22) (lv2 := [(2, .int 8), (0, .ref 10), (1, .int a5)]) (st2 := [.ref 10, .ref 11]) jF_26_21 rfl rfl) ?_
      refine Eq.trans (jr_gf (v := .int 18) jF_26_22 (rfl)) ?_
      refine Eq.trans (jr_s (pc2 := 26) (lv2 := [(2, .int 8), (0, .ref 10), (1, .int a5)]) (st2 := [.int a5, .int 18, .ref 11]) jF_26_25 rfl rfl) ?_
      refine Eq.trans (jr_s (pc2 := 27) (lv2 := [(2, .int 8), (0, .ref 10), (1, .int a5)]) (st2 := [.int 8, .int a5, .int 18, .ref 11]) jF_26_26 rfl rfl) ?_
      refine Eq.trans (jr_s (pc2 := 28) (lv2 := [(2, .int 8), (0, .ref 10), (1, .int a5)]) (st2 := [.int ((Int32.toUInt32 a5) >>> ((Int32.toUInt32 8) &&& Int32.toUInt32 31)).toInt32, .int 18, .ref 11]) jF_26_27 rfl rfl) ?_
      refine Eq.trans (jr_s (pc2 := 31) (lv2 := [(2, .int 8), (0, .ref 10), (1, .int a5)]) (st2 := [.int 255, .int ((Int32.toUInt32 a5) >>> ((Int32.toUInt32 8) &&& Int32.toUInt32 31)).toInt32, .int 18, .ref 11]) jF_26_28 rfl rfl) ?_
      refine Eq.trans (jr_s (pc2 := 32) (lv2 := [(2, .int 8), (0, .ref 10), (1, .int a5)]) (st2 := [.int (((Int32.toUInt32 a5) >>> ((Int32.toUInt32 8) &&& Int32.toUInt32 31)).toInt32 &&& 255), .int 18, .ref 11]) jF_26_31 rfl rfl) ?_
      refine Eq.trans (jr_sti (q := 18) jF_26_32 (rfl) (by decide +kernel)) ?_
      refine Eq.trans (jr_s (pc2 := 34) (lv2 := [(2, .int 8), (0, .ref 10), (1, .int a5)]) (st2 := [.ref 10]) jF_26_33 rfl rfl) ?_
      refine Eq.trans (jr_s (pc2 := 35) (lv2 := [(2, .int 8), (0, .ref 10), (1, .int a5)]) (st2 := [.ref 10, .ref 10]) jF_26_34 rfl rfl) ?_
      refine Eq.trans (jr_gf (v := .int 18) jF_26_35 (rfl)) ?_
      refine Eq.trans (jr_s (pc2 := 39) (lv2 := [(2, .int 8), (0, .ref 10), (1, .int a5)]) (st2 := [.int 1, .int 18, .ref 10]) jF_26_38 rfl rfl) ?_
      refine Eq.trans (jr_s (pc2 := 40) (lv2 := [(2, .int 8), (0, .ref 10), (1, .int a5)]) (st2 := [.int 19, .ref 10]) jF_26_39 rfl rfl) ?_
      refine Eq.trans (jr_pf jF_26_40 (rfl) rfl) ?_
      refine Eq.trans (jr_s (pc2 := 46) (lv2 := [(2, .int 0), (0, .ref 10), (1, .int a5)]) (st2 := []) jF_26_43 rfl rfl) ?_
      refine Eq.trans (jr_s (pc2 := 3) (lv2 := [(2, .int 0), (0, .ref 10), (1, .int a5)]) (st2 := []) jF_26_46 rfl rfl) ?_
      refine Eq.trans (jr_s (pc2 := 4) (lv2 := [(2, .int 0), (0, .ref 10), (1, .int a5)]) (st2 := [.int 0]) jF_26_3 rfl rfl) ?_
      refine Eq.trans (jr_if0 jF_26_4 (by decide +kernel)) ?_
      refine Eq.trans (jr_s (pc2 := 8) (lv2 := [(2, .int 0), (0, .ref 10), (1, .int a5)]) (st2 := [.ref 10]) jF_26_7 rfl rfl) ?_
      refine Eq.trans (jr_gf (v := .int 19) jF_26_8 (rfl)) ?_
      refine Eq.trans (jr_s (pc2 := 14) (lv2 := [(2, .int 0), (0, .ref 10), (1, .int a5)]) (st2 := [.int 1600, .int 19]) jF_26_11 rfl rfl) ?_
      refine Eq.trans (jr_ic0 jF_26_14 (by decide +kernel)) ?_
      refine Eq.trans (jr_s (pc2 := 18) (lv2 := [(2, .int 0), (0, .ref 10), (1, .int a5)]) (st2 := [.ref 10]) jF_26_17 rfl rfl) ?_
      refine Eq.trans (jr_gf (v := .ref 11) jF_26_18 (rfl)) ?_
      refine Eq.trans (jr_s (pc2 := 22) (lv2 := [(2, .int 0), (0, .ref 10), (1, .int a5)]) (st2 := [.ref 10, .ref 11]) jF_26_21 rfl rfl) ?_
      refine Eq.trans (jr_gf (v := .int 19) jF_26_22 (rfl)) ?_
      refine Eq.trans (jr_s (pc2 := 26) (lv2 := [(2, .int 0), (0, .ref 10), (1, .int a5)]) (st2 := [.int a5, .int 19, .ref 11]) jF_26_25 rfl rfl) ?_
      refine Eq.trans (jr_s (pc2 := 27) (lv2 := [(2, .int 0), (0, .ref 10), (1, .int a5)]) (st2 := [.int 0, .int a5, .int 19, .ref 11]) jF_26_26 rfl rfl) ?_
      refine Eq.trans (jr_s (pc2 := 28) (lv2 := [(2, .int 0), (0, .ref 10), (1, .int a5)]) (st2 := [.int ((Int32.toUInt32 a5) >>> ((Int32.toUInt32 0) &&& Int32.toUInt32 31)).toInt32, .int 19, .ref 11]) jF_26_27 rfl rfl) ?_
      refine Eq.trans (jr_s (pc2 := 31) (lv2 := [(2, .int 0), (0, .ref 10), (1, .int a5)]) (st2 := [.int 255, .int ((Int32.toUInt32 a5) >>> ((Int32.toUInt32 0) &&& Int32.toUInt32 31)).toInt32, .int 19, .ref 11]) jF_26_28 rfl rfl) ?_
      refine Eq.trans (jr_s (pc2 := 32) (lv2 := [(2, .int 0), (0, .ref 10), (1, .int a5)]) (st2 := [.int (((Int32.toUInt32 a5) >>> ((Int32.toUInt32 0) &&& Int32.toUInt32 31)).toInt32 &&& 255), .int 19, .ref 11]) jF_26_31 rfl rfl) ?_
      refine Eq.trans (jr_sti (q := 19) jF_26_32 (rfl) (by decide +kernel)) ?_
      refine Eq.trans (jr_s (pc2 := 34) (lv2 := [(2, .int 0), (0, .ref 10), (1, .int a5)]) (st2 := [.ref 10]) jF_26_33 rfl rfl) ?_
      refine Eq.trans (jr_s (pc2 := 35) (lv2 := [(2, .int 0), (0, .ref 10), (1, .int a5)]) (st2 := [.ref 10, .ref 10]) jF_26_34 rfl rfl) ?_
      refine Eq.trans (jr_gf (v := .int 19) jF_26_35 (rfl)) ?_
      refine Eq.trans (jr_s (pc2 := 39) (lv2 := [(2, .int 0), (0, .ref 10), (1, .int a5)]) (st2 := [.int 1, .int 19, .ref 10]) jF_26_38 rfl rfl) ?_
      refine Eq.trans (jr_s (pc2 := 40) (lv2 := [(2, .int 0), (0, .ref 10), (1, .int a5)]) (st2 := [.int 20, .ref 10]) jF_26_39 rfl rfl) ?_
      refine Eq.trans (jr_pf jF_26_40 (rfl) rfl) ?_
      refine Eq.trans (jr_s (pc2 := 46) (lv2 := [(2, .int (-8)), (0, .ref 10), (1, .int a5)]) (st2 := []) jF_26_43 rfl rfl) ?_
      refine Eq.trans (jr_s (pc2 := 3) (lv2 := [(2, .int (-8)), (0, .ref 10), (1, .int a5)]) (st2 := []) jF_26_46 rfl rfl) ?_
      refine Eq.trans (jr_s (pc2 := 4) (lv2 := [(2, .int (-8)), (0, .ref 10), (1, .int a5)]) (st2 := [.int (-8)]) jF_26_3 rfl rfl) ?_
      refine Eq.trans (jr_if1 jF_26_4 (by decide +kernel)) ?_
      exact jr_rr jF_26_49
    refine Eq.trans (jr_s (pc2 := 65) (lv2 := [(0, .ref 9), (1, .int a1), (2, .int a2), (3, .int a3), (4, .int a4), (5, .int a5)]) (st2 := [.ref 9]) jF_24_64 rfl rfl) ?_
    refine Eq.trans (jr_gf (v := .ref 10) jF_24_65 (rfl)) ?_
    refine Eq.trans (jr_gf (v := .int 20) jF_24_68 (rfl)) ?_
    exact jr_ri jF_24_71 rfl
  · refine Eq.trans (jr_s (pc2 := 1) (lv2 := [(0, .ref 117), (1, .int a1), (2, .int a2), (3, .int a3), (4, .int a4), (5, .int a5)]) (st2 := [.ref 117]) jF_212_0 rfl rfl) ?_
    refine Eq.trans (jr_gf (v := .int 0) jF_212_1 (rfl)) ?_
    refine Eq.trans (jr_s (pc2 := 6) (lv2 := [(0, .ref 117), (1, .int a1), (2, .int a2), (3, .int a3), (4, .int a4), (5, .int a5)]) (st2 := [.int 20, .int 0]) jF_212_4 rfl rfl) ?_
    refine Eq.trans (jr_s (pc2 := 7) (lv2 := [(0, .ref 117), (1, .int a1), (2, .int a2), (3, .int a3), (4, .int a4), (5, .int a5)]) (st2 := [.int 20]) jF_212_6 rfl rfl) ?_
    refine Eq.trans (jr_s (pc2 := 10) (lv2 := [(0, .ref 117), (1, .int a1), (2, .int a2), (3, .int a3), (4, .int a4), (5, .int a5)]) (st2 := [.int 1600, .int 20]) jF_212_7 rfl rfl) ?_
    refine Eq.trans (jr_ic1 jF_212_10 (by decide +kernel)) ?_
    refine Eq.trans (jr_s (pc2 := 26) (lv2 := [(0, .ref 117), (1, .int a1), (2, .int a2), (3, .int a3), (4, .int a4), (5, .int a5)]) (st2 := [.int 0]) jF_212_25 rfl rfl) ?_
    refine Eq.trans (jr_s (pc2 := 28) (lv2 := [(6, .int 0), (0, .ref 117), (1, .int a1), (2, .int a2), (3, .int a3), (4, .int a4), (5, .int a5)]) (st2 := []) jF_212_26 rfl rfl) ?_
    refine Eq.trans (jr_s (pc2 := 30) (lv2 := [(6, .int 0), (0, .ref 117), (1, .int a1), (2, .int a2), (3, .int a3), (4, .int a4), (5, .int a5)]) (st2 := [.int 0]) jF_212_28 rfl rfl) ?_
    refine Eq.trans (jr_s (pc2 := 32) (lv2 := [(6, .int 0), (0, .ref 117), (1, .int a1), (2, .int a2), (3, .int a3), (4, .int a4), (5, .int a5)]) (st2 := [.int 20, .int 0]) jF_212_30 rfl rfl) ?_
    refine Eq.trans (jr_ic0 jF_212_32 (by decide +kernel)) ?_
    refine Eq.trans (jr_s (pc2 := 37) (lv2 := [(6, .int 0), (0, .ref 117), (1, .int a1), (2, .int a2), (3, .int a3), (4, .int a4), (5, .int a5)]) (st2 := [.int 0]) jF_212_35 rfl rfl) ?_
    refine Eq.trans (jr_s (pc2 := 38) (lv2 := [(6, .int 0), (0, .ref 117), (1, .int a1), (2, .int a2), (3, .int a3), (4, .int a4), (5, .int a5)]) (st2 := [.int 4, .int 0]) jF_212_37 rfl rfl) ?_
    refine Eq.trans (jr_ic0 jF_212_38 (by decide +kernel)) ?_
    refine Eq.trans (jr_s (pc2 := 42) (lv2 := [(6, .int 0), (0, .ref 117), (1, .int a1), (2, .int a2), (3, .int a3), (4, .int a4), (5, .int a5)]) (st2 := [.int a1]) jF_212_41 rfl rfl) ?_
    refine Eq.trans (jr_s (pc2 := 81) (lv2 := [(6, .int 0), (0, .ref 117), (1, .int a1), (2, .int a2), (3, .int a3), (4, .int a4), (5, .int a5)]) (st2 := [.int a1]) jF_212_42 rfl rfl) ?_
    refine Eq.trans (jr_s (pc2 := 83) (lv2 := [(7, .int a1), (6, .int 0), (0, .ref 117), (1, .int a1), (2, .int a2), (3, .int a3), (4, .int a4), (5, .int a5)]) (st2 := []) jF_212_81 rfl rfl) ?_
    refine Eq.trans (jr_s (pc2 := 84) (lv2 := [(7, .int a1), (6, .int 0), (0, .ref 117), (1, .int a1), (2, .int a2), (3, .int a3), (4, .int a4), (5, .int a5)]) (st2 := [.ref 117]) jF_212_83 rfl rfl) ?_
    refine Eq.trans (jr_gf (v := .ref 118) jF_212_84 (rfl)) ?_
    refine Eq.trans (jr_s (pc2 := 88) (lv2 := [(7, .int a1), (6, .int 0), (0, .ref 117), (1, .int a1), (2, .int a2), (3, .int a3), (4, .int a4), (5, .int a5)]) (st2 := [.ref 117, .ref 118]) jF_212_87 rfl rfl) ?_
    refine Eq.trans (jr_gf (v := .int 0) jF_212_88 (rfl)) ?_
    refine Eq.trans (jr_s (pc2 := 93) (lv2 := [(7, .int a1), (6, .int 0), (0, .ref 117), (1, .int a1), (2, .int a2), (3, .int a3), (4, .int a4), (5, .int a5)]) (st2 := [.int a1, .int 0, .ref 118]) jF_212_91 rfl rfl) ?_
    refine Eq.trans (jr_s (pc2 := 95) (lv2 := [(7, .int a1), (6, .int 0), (0, .ref 117), (1, .int a1), (2, .int a2), (3, .int a3), (4, .int a4), (5, .int a5)]) (st2 := [.int 8, .int a1, .int 0, .ref 118]) jF_212_93 rfl rfl) ?_
    refine Eq.trans (jr_s (pc2 := 96) (lv2 := [(7, .int a1), (6, .int 0), (0, .ref 117), (1, .int a1), (2, .int a2), (3, .int a3), (4, .int a4), (5, .int a5)]) (st2 := [.int 3, .int 8, .int a1, .int 0, .ref 118]) jF_212_95 rfl rfl) ?_
    refine Eq.trans (jr_s (pc2 := 98) (lv2 := [(7, .int a1), (6, .int 0), (0, .ref 117), (1, .int a1), (2, .int a2), (3, .int a3), (4, .int a4), (5, .int a5)]) (st2 := [.int 0, .int 3, .int 8, .int a1, .int 0, .ref 118]) jF_212_96 rfl rfl) ?_
    refine Eq.trans (jr_s (pc2 := 99) (lv2 := [(7, .int a1), (6, .int 0), (0, .ref 117), (1, .int a1), (2, .int a2), (3, .int a3), (4, .int a4), (5, .int a5)]) (st2 := [.int 4, .int 0, .int 3, .int 8, .int a1, .int 0, .ref 118]) jF_212_98 rfl rfl) ?_
    refine Eq.trans (jr_s (pc2 := 100) (lv2 := [(7, .int a1), (6, .int 0), (0, .ref 117), (1, .int a1), (2, .int a2), (3, .int a3), (4, .int a4), (5, .int a5)]) (st2 := [.int 0, .int 3, .int 8, .int a1, .int 0, .ref 118]) jF_212_99 rfl rfl) ?_
    refine Eq.trans (jr_s (pc2 := 101) (lv2 := [(7, .int a1), (6, .int 0), (0, .ref 117), (1, .int a1), (2, .int a2), (3, .int a3), (4, .int a4), (5, .int a5)]) (st2 := [.int 3, .int 8, .int a1, .int 0, .ref 118]) jF_212_100 rfl rfl) ?_
    refine Eq.trans (jr_s (pc2 := 102) (lv2 := [(7, .int a1), (6, .int 0), (0, .ref 117), (1, .int a1), (2, .int a2), (3, .int a3), (4, .int a4), (5, .int a5)]) (st2 := [.int 24, .int a1, .int 0, .ref 118]) jF_212_101 rfl rfl) ?_
    refine Eq.trans (jr_s (pc2 := 103) (lv2 := [(7, .int a1), (6, .int 0), (0, .ref 117), (1, .int a1), (2, .int a2), (3, .int a3), (4, .int a4), (5, .int a5)]) (st2 := [.int (a1 >>> ((24 : Int32) &&& 31)), .int 0, .ref 118]) jF_212_102 rfl rfl) ?_
    refine Eq.trans (jr_s (pc2 := 106) (lv2 := [(7, .int a1), (6, .int 0), (0, .ref 117), (1, .int a1), (2, .int a2), (3, .int a3), (4, .int a4), (5, .int a5)]) (st2 := [.int 255, .int (a1 >>> ((24 : Int32) &&& 31)), .int 0, .ref 118]) jF_212_103 rfl rfl) ?_
    refine Eq.trans (jr_s (pc2 := 107) (lv2 := [(7, .int a1), (6, .int 0), (0, .ref 117), (1, .int a1), (2, .int a2), (3, .int a3), (4, .int a4), (5, .int a5)]) (st2 := [.int ((a1 >>> ((24 : Int32) &&& 31)) &&& 255), .int 0, .ref 118]) jF_212_106 rfl rfl) ?_
    refine Eq.trans (jr_sti (q := 0) jF_212_107 (rfl) (by decide +kernel)) ?_
    refine Eq.trans (jr_s (pc2 := 109) (lv2 := [(7, .int a1), (6, .int 0), (0, .ref 117), (1, .int a1), (2, .int a2), (3, .int a3), (4, .int a4), (5, .int a5)]) (st2 := [.ref 117]) jF_212_108 rfl rfl) ?_
    refine Eq.trans (jr_s (pc2 := 110) (lv2 := [(7, .int a1), (6, .int 0), (0, .ref 117), (1, .int a1), (2, .int a2), (3, .int a3), (4, .int a4), (5, .int a5)]) (st2 := [.ref 117, .ref 117]) jF_212_109 rfl rfl) ?_
    refine Eq.trans (jr_gf (v := .int 0) jF_212_110 (rfl)) ?_
    refine Eq.trans (jr_s (pc2 := 114) (lv2 := [(7, .int a1), (6, .int 0), (0, .ref 117), (1, .int a1), (2, .int a2), (3, .int a3), (4, .int a4), (5, .int a5)]) (st2 := [.int 1, .int 0, .ref 117]) jF_212_113 rfl rfl) ?_
    refine Eq.trans (jr_s (pc2 := 115) (lv2 := [(7, .int a1), (6, .int 0), (0, .ref 117), (1, .int a1), (2, .int a2), (3, .int a3), (4, .int a4), (5, .int a5)]) (st2 := [.int 1, .ref 117]) jF_212_114 rfl rfl) ?_
    refine Eq.trans (jr_pf jF_212_115 (rfl) rfl) ?_
    refine Eq.trans (jr_s (pc2 := 121) (lv2 := [(6, .int 1), (7, .int a1), (0, .ref 117), (1, .int a1), (2, .int a2), (3, .int a3), (4, .int a4), (5, .int a5)]) (st2 := []) jF_212_118 rfl rfl) ?_
    refine Eq.trans (jr_s (pc2 := 28) (lv2 := [(6, .int 1), (7, .int a1), (0, .ref 117), (1, .int a1), (2, .int a2), (3, .int a3), (4, .int a4), (5, .int a5)]) (st2 := []) jF_212_121 rfl rfl) ?_
    refine Eq.trans (jr_s (pc2 := 30) (lv2 := [(6, .int 1), (7, .int a1), (0, .ref 117), (1, .int a1), (2, .int a2), (3, .int a3), (4, .int a4), (5, .int a5)]) (st2 := [.int 1]) jF_212_28 rfl rfl) ?_
    refine Eq.trans (jr_s (pc2 := 32) (lv2 := [(6, .int 1), (7, .int a1), (0, .ref 117), (1, .int a1), (2, .int a2), (3, .int a3), (4, .int a4), (5, .int a5)]) (st2 := [.int 20, .int 1]) jF_212_30 rfl rfl) ?_
    refine Eq.trans (jr_ic0 jF_212_32 (by decide +kernel)) ?_
    refine Eq.trans (jr_s (pc2 := 37) (lv2 := [(6, .int 1), (7, .int a1), (0, .ref 117), (1, .int a1), (2, .int a2), (3, .int a3), (4, .int a4), (5, .int a5)]) (st2 := [.int 1]) jF_212_35 rfl rfl) ?_
    refine Eq.trans (jr_s (pc2 := 38) (lv2 := [(6, .int 1), (7, .int a1), (0, .ref 117), (1, .int a1), (2, .int a2), (3, .int a3), (4, .int a4), (5, .int a5)]) (st2 := [.int 4, .int 1]) jF_212_37 rfl rfl) ?_
    refine Eq.trans (jr_ic0 jF_212_38 (by decide +kernel)) ?_
    refine Eq.trans (jr_s (pc2 := 42) (lv2 := [(6, .int 1), (7, .int a1), (0, .ref 117), (1, .int a1), (2, .int a2), (3, .int a3), (4, .int a4), (5, .int a5)]) (st2 := [.int a1]) jF_212_41 rfl rfl) ?_
    refine Eq.trans (jr_s (pc2 := 81) (lv2 := [(6, .int 1), (7, .int a1), (0, .ref 117), (1, .int a1), (2, .int a2), (3, .int a3), (4, .int a4), (5, .int a5)]) (st2 := [.int a1]) jF_212_42 rfl rfl) ?_
    refine Eq.trans (jr_s (pc2 := 83) (lv2 := [(7, .int a1), (6, .int 1), (0, .ref 117), (1, .int a1), (2, .int a2), (3, .int a3), (4, .int a4), (5, .int a5)]) (st2 := []) jF_212_81 rfl rfl) ?_
    refine Eq.trans (jr_s (pc2 := 84) (lv2 := [(7, .int a1), (6, .int 1), (0, .ref 117), (1, .int a1), (2, .int a2), (3, .int a3), (4, .int a4), (5, .int a5)]) (st2 := [.ref 117]) jF_212_83 rfl rfl) ?_
    refine Eq.trans (jr_gf (v := .ref 118) jF_212_84 (rfl)) ?_
    refine Eq.trans (jr_s (pc2 := 88) (lv2 := [(7, .int a1), (6, .int 1), (0, .ref 117), (1, .int a1), (2, .int a2), (3, .int a3), (4, .int a4), (5, .int a5)]) (st2 := [.ref 117, .ref 118]) jF_212_87 rfl rfl) ?_
    refine Eq.trans (jr_gf (v := .int 1) jF_212_88 (rfl)) ?_
    refine Eq.trans (jr_s (pc2 := 93) (lv2 := [(7, .int a1), (6, .int 1), (0, .ref 117), (1, .int a1), (2, .int a2), (3, .int a3), (4, .int a4), (5, .int a5)]) (st2 := [.int a1, .int 1, .ref 118]) jF_212_91 rfl rfl) ?_
    refine Eq.trans (jr_s (pc2 := 95) (lv2 := [(7, .int a1), (6, .int 1), (0, .ref 117), (1, .int a1), (2, .int a2), (3, .int a3), (4, .int a4), (5, .int a5)]) (st2 := [.int 8, .int a1, .int 1, .ref 118]) jF_212_93 rfl rfl) ?_
    refine Eq.trans (jr_s (pc2 := 96) (lv2 := [(7, .int a1), (6, .int 1), (0, .ref 117), (1, .int a1), (2, .int a2), (3, .int a3), (4, .int a4), (5, .int a5)]) (st2 := [.int 3, .int 8, .int a1, .int 1, .ref 118]) jF_212_95 rfl rfl) ?_
    refine Eq.trans (jr_s (pc2 := 98) (lv2 := [(7, .int a1), (6, .int 1), (0, .ref 117), (1, .int a1), (2, .int a2), (3, .int a3), (4, .int a4), (5, .int a5)]) (st2 := [.int 1, .int 3, .int 8, .int a1, .int 1, .ref 118]) jF_212_96 rfl rfl) ?_
    refine Eq.trans (jr_s (pc2 := 99) (lv2 := [(7, .int a1), (6, .int 1), (0, .ref 117), (1, .int a1), (2, .int a2), (3, .int a3), (4, .int a4), (5, .int a5)]) (st2 := [.int 4, .int 1, .int 3, .int 8, .int a1, .int 1, .ref 118]) jF_212_98 rfl rfl) ?_
    refine Eq.trans (jr_s (pc2 := 100) (lv2 := [(7, .int a1), (6, .int 1), (0, .ref 117), (1, .int a1), (2, .int a2), (3, .int a3), (4, .int a4), (5, .int a5)]) (st2 := [.int 1, .int 3, .int 8, .int a1, .int 1, .ref 118]) jF_212_99 rfl rfl) ?_
    refine Eq.trans (jr_s (pc2 := 101) (lv2 := [(7, .int a1), (6, .int 1), (0, .ref 117), (1, .int a1), (2, .int a2), (3, .int a3), (4, .int a4), (5, .int a5)]) (st2 := [.int 2, .int 8, .int a1, .int 1, .ref 118]) jF_212_100 rfl rfl) ?_
    refine Eq.trans (jr_s (pc2 := 102) (lv2 := [(7, .int a1), (6, .int 1), (0, .ref 117), (1, .int a1), (2, .int a2), (3, .int a3), (4, .int a4), (5, .int a5)]) (st2 := [.int 16, .int a1, .int 1, .ref 118]) jF_212_101 rfl rfl) ?_
    refine Eq.trans (jr_s (pc2 := 103) (lv2 := [(7, .int a1), (6, .int 1), (0, .ref 117), (1, .int a1), (2, .int a2), (3, .int a3), (4, .int a4), (5, .int a5)]) (st2 := [.int (a1 >>> ((16 : Int32) &&& 31)), .int 1, .ref 118]) jF_212_102 rfl rfl) ?_
    refine Eq.trans (jr_s (pc2 := 106) (lv2 := [(7, .int a1), (6, .int 1), (0, .ref 117), (1, .int a1), (2, .int a2), (3, .int a3), (4, .int a4), (5, .int a5)]) (st2 := [.int 255, .int (a1 >>> ((16 : Int32) &&& 31)), .int 1, .ref 118]) jF_212_103 rfl rfl) ?_
    refine Eq.trans (jr_s (pc2 := 107) (lv2 := [(7, .int a1), (6, .int 1), (0, .ref 117), (1, .int a1), (2, .int a2), (3, .int a3), (4, .int a4), (5, .int a5)]) (st2 := [.int ((a1 >>> ((16 : Int32) &&& 31)) &&& 255), .int 1, .ref 118]) jF_212_106 rfl rfl) ?_
    refine Eq.trans (jr_sti (q := 1) jF_212_107 (rfl) (by decide +kernel)) ?_
    refine Eq.trans (jr_s (pc2 := 109) (lv2 := [(7, .int a1), (6, .int 1), (0, .ref 117), (1, .int a1), (2, .int a2), (3, .int a3), (4, .int a4), (5, .int a5)]) (st2 := [.ref 117]) jF_212_108 rfl rfl) ?_
    refine Eq.trans (jr_s (pc2 := 110) (lv2 := [(7, .int a1), (6, .int 1), (0, .ref 117), (1, .int a1), (2, .int a2), (3, .int a3), (4, .int a4), (5, .int a5)]) (st2 := [.ref 117, .ref 117]) jF_212_109 rfl rfl) ?_
    refine Eq.trans (jr_gf (v := .int 1) jF_212_110 (rfl)) ?_
    refine Eq.trans (jr_s (pc2 := 114) (lv2 := [(7, .int a1), (6, .int 1), (0, .ref 117), (1, .int a1), (2, .int a2), (3, .int a3), (4, .int a4), (5, .int a5)]) (st2 := [.int 1, .int 1, .ref 117]) jF_212_113 rfl rfl) ?_
    refine Eq.trans (jr_s (pc2 := 115) (lv2 := [(7, .int a1), (6, .int 1), (0, .ref 117), (1, .int a1), (2, .int a2), (3, .int a3), (4, .int a4), (5, .int a5)]) (st2 := [.int 2, .ref 117]) jF_212_114 rfl rfl) ?_
    refine Eq.trans (jr_pf jF_212_115 (rfl) rfl) ?_
    refine Eq.trans (jr_s (pc2 := 121) (lv2 := [(6, .int 2), (7, .int a1), (0, .ref 117), (1, .int a1), (2, .int a2), (3, .int a3), (4, .int a4), (5, .int a5)]) (st2 := []) jF_212_118 rfl rfl) ?_
    refine Eq.trans (jr_s (pc2 := 28) (lv2 := [(6, .int 2), (7, .int a1), (0, .ref 117), (1, .int a1), (2, .int a2), (3, .int a3), (4, .int a4), (5, .int a5)]) (st2 := []) jF_212_121 rfl rfl) ?_
    refine Eq.trans (jr_s (pc2 := 30) (lv2 := [(6, .int 2), (7, .int a1), (0, .ref 117), (1, .int a1), (2, .int a2), (3, .int a3), (4, .int a4), (5, .int a5)]) (st2 := [.int 2]) jF_212_28 rfl rfl) ?_
    refine Eq.trans (jr_s (pc2 := 32) (lv2 := [(6, .int 2), (7, .int a1), (0, .ref 117), (1, .int a1), (2, .int a2), (3, .int a3), (4, .int a4), (5, .int a5)]) (st2 := [.int 20, .int 2]) jF_212_30 rfl rfl) ?_
    refine Eq.trans (jr_ic0 jF_212_32 (by decide +kernel)) ?_
    refine Eq.trans (jr_s (pc2 := 37) (lv2 := [(6, .int 2), (7, .int a1), (0, .ref 117), (1, .int a1), (2, .int a2), (3, .int a3), (4, .int a4), (5, .int a5)]) (st2 := [.int 2]) jF_212_35 rfl rfl) ?_
    refine Eq.trans (jr_s (pc2 := 38) (lv2 := [(6, .int 2), (7, .int a1), (0, .ref 117), (1, .int a1), (2, .int a2), (3, .int a3), (4, .int a4), (5, .int a5)]) (st2 := [.int 4, .int 2]) jF_212_37 rfl rfl) ?_
    refine Eq.trans (jr_ic0 jF_212_38 (by decide +kernel)) ?_
    refine Eq.trans (jr_s (pc2 := 42) (lv2 := [(6, .int 2), (7, .int a1), (0, .ref 117), (1, .int a1), (2, .int a2), (3, .int a3), (4, .int a4), (5, .int a5)]) (st2 := [.int a1]) jF_212_41 rfl rfl) ?_
    refine Eq.trans (jr_s (pc2 := 81) (lv2 := [(6, .int 2), (7, .int a1), (0, .ref 117), (1, .int a1), (2, .int a2), (3, .int a3), (4, .int a4), (5, .int a5)]) (st2 := [.int a1]) jF_212_42 rfl rfl) ?_
    refine Eq.trans (jr_s (pc2 := 83) (lv2 := [(7, .int a1), (6, .int 2), (0, .ref 117), (1, .int a1), (2, .int a2), (3, .int a3), (4, .int a4), (5, .int a5)]) (st2 := []) jF_212_81 rfl rfl) ?_
    refine Eq.trans (jr_s (pc2 := 84) (lv2 := [(7, .int a1), (6, .int 2), (0, .ref 117), (1, .int a1), (2, .int a2), (3, .int a3), (4, .int a4), (5, .int a5)]) (st2 := [.ref 117]) jF_212_83 rfl rfl) ?_
    refine Eq.trans (jr_gf (v := .ref 118) jF_212_84 (rfl)) ?_
    refine Eq.trans (jr_s (pc2 := 88) (lv2 := [(7, .int a1), (6, .int 2), (0, .ref 117), (1, .int a1), (2, .int a2), (3, .int a3), (4, .int a4), (5, .int a5)]) (st2 := [.ref 117, .ref 118]) jF_212_87 rfl rfl) ?_
    refine Eq.trans (jr_gf (v := .int 2) jF_212_88 (rfl)) ?_
    refine Eq.trans (jr_s (pc2 := 93) (lv2 := [(7, .int a1), (6, .int 2), (0, .ref 117), (1, .int a1), (2, .int a2), (3, .int a3), (4, .int a4), (5, .int a5)]) (st2 := [.int a1, .int 2, .ref 118]) jF_212_91 rfl rfl) ?_
    refine Eq.trans (jr_s (pc2 := 95) (lv2 := [(7, .int a1), (6, .int 2), (0, .ref 117), (1, .int a1), (2, .int a2), (3, .int a3), (4, .int a4), (5, .int a5)]) (st2 := [.int 8, .int a1, .int 2, .ref 118]) jF_212_93 rfl rfl) ?_
    refine Eq.trans (jr_s (pc2 := 96) (lv2 := [(7, .int a1), (6, .int 2), (0, .ref 117), (1, .int a1), (2, .int a2), (3, .int a3), (4, .int a4), (5, .int a5)]) (st2 := [.int 3, .int 8, .int a1, .int 2, .ref 118]) jF_212_95 rfl rfl) ?_
    refine Eq.trans (jr_s (pc2 := 98) (lv2 := [(7, .int a1), (6, .int 2), (0, .ref 117), (1, .int a1), (2, .int a2), (3, .int a3), (4, .int a4), (5, .int a5)]) (st2 := [.int 2, .int 3, .int 8, .int a1, .int 2, .ref 118]) jF_212_96 rfl rfl) ?_
    refine Eq.trans (jr_s (pc2 := 99) (lv2 := [(7, .int a1), (6, .int 2), (0, .ref 117), (1, .int a1), (2, .int a2), (3, .int a3), (4, .int a4), (5, .int a5)]) (st2 := [.int 4, .int 2, .int 3, .int 8, .int a1, .int 2, .ref 118]) jF_212_98 rfl rfl) ?_
    refine Eq.trans (jr_s (pc2 := 100) (lv2 := [(7, .int a1), (6, .int 2), (0, .ref 117), (1, .int a1), (2, .int a2), (3, .int a3), (4, .int a4), (5, .int a5)]) (st2 := [.int 2, .int 3, .int 8, .int a1, .int 2, .ref 118]) jF_212_99 rfl rfl) ?_
    refine Eq.trans (jr_s (pc2 := 101) (lv2 := [(7, .int a1), (6, .int 2), (0, .ref 117), (1, .int a1), (2, .int a2), (3, .int a3), (4, .int a4), (5, .int a5)]) (st2 := [.int 1, .int 8, .int a1, .int 2, .ref 118]) jF_212_100 rfl rfl) ?_
    refine Eq.trans (jr_s (pc2 := 102) (lv2 := [(7, .int a1), (6, .int 2), (0, .ref 117), (1, .int a1), (2, .int a2), (3, .int a3), (4, .int a4), (5, .int a5)]) (st2 := [.int 8, .int a1, .int 2, .ref 118]) jF_212_101 rfl rfl) ?_
    refine Eq.trans (jr_s (pc2 := 103) (lv2 := [(7, .int a1), (6, .int 2), (0, .ref 117), (1, .int a1), (2, .int a2), (3, .int a3), (4, .int a4), (5, .int a5)]) (st2 := [.int (a1 >>> ((8 : Int32) &&& 31)), .int 2, .ref 118]) jF_212_102 rfl rfl) ?_
    refine Eq.trans (jr_s (pc2 := 106) (lv2 := [(7, .int a1), (6, .int 2), (0, .ref 117), (1, .int a1), (2, .int a2), (3, .int a3), (4, .int a4), (5, .int a5)]) (st2 := [.int 255, .int (a1 >>> ((8 : Int32) &&& 31)), .int 2, .ref 118]) jF_212_103 rfl rfl) ?_
    refine Eq.trans (jr_s (pc2 := 107) (lv2 := [(7, .int a1), (6, .int 2), (0, .ref 117), (1, .int a1), (2, .int a2), (3, .int a3), (4, .int a4), (5, .int a5)]) (st2 := [.int ((a1 >>> ((8 : Int32) &&& 31)) &&& 255), .int 2, .ref 118]) jF_212_106 rfl rfl) ?_
    refine Eq.trans (jr_sti (q := 2) jF_212_107 (rfl) (by decide +kernel)) ?_
    refine Eq.trans (jr_s (pc2 := 109) (lv2 := [(7, .int a1), (6, .int 2), (0, .ref 117), (1, .int a1), (2, .int a2), (3, .int a3), (4, .int a4), (5, .int a5)]) (st2 := [.ref 117]) jF_212_108 rfl rfl) ?_
    refine Eq.trans (jr_s (pc2 := 110) (lv2 := [(7, .int a1), (6, .int 2), (0, .ref 117), (1, .int a1), (2, .int a2), (3, .int a3), (4, .int a4), (5, .int a5)]) (st2 := [.ref 117, .ref 117]) jF_212_109 rfl rfl) ?_
    refine Eq.trans (jr_gf (v := .int 2) jF_212_110 (rfl)) ?_
    refine Eq.trans (jr_s (pc2 := 114) (lv2 := [(7, .int a1), (6, .int 2), (0, .ref 117), (1, .int a1), (2, .int a2), (3, .int a3), (4, .int a4), (5, .int a5)]) (st2 := [.int 1, .int 2, .ref 117]) jF_212_113 rfl rfl) ?_
    refine Eq.trans (jr_s (pc2 := 115) (lv2 := [(7, .int a1), (6, .int 2), (0, .ref 117), (1, .int a1), (2, .int a2), (3, .int a3), (4, .int a4), (5, .int a5)]) (st2 := [.int 3, .ref 117]) jF_212_114 rfl rfl) ?_
    refine Eq.trans (jr_pf jF_212_115 (rfl) rfl) ?_
    refine Eq.trans (jr_s (pc2 := 121) (lv2 := [(6, .int 3), (7, .int a1), (0, .ref 117), (1, .int a1), (2, .int a2), (3, .int a3), (4, .int a4), (5, .int a5)]) (st2 := []) jF_212_118 rfl rfl) ?_
    refine Eq.trans (jr_s (pc2 := 28) (lv2 := [(6, .int 3), (7, .int a1), (0, .ref 117), (1, .int a1), (2, .int a2), (3, .int a3), (4, .int a4), (5, .int a5)]) (st2 := []) jF_212_121 rfl rfl) ?_
    refine Eq.trans (jr_s (pc2 := 30) (lv2 := [(6, .int 3), (7, .int a1), (0, .ref 117), (1, .int a1), (2, .int a2), (3, .int a3), (4, .int a4), (5, .int a5)]) (st2 := [.int 3]) jF_212_28 rfl rfl) ?_
    refine Eq.trans (jr_s (pc2 := 32) (lv2 := [(6, .int 3), (7, .int a1), (0, .ref 117), (1, .int a1), (2, .int a2), (3, .int a3), (4, .int a4), (5, .int a5)]) (st2 := [.int 20, .int 3]) jF_212_30 rfl rfl) ?_
    refine Eq.trans (jr_ic0 jF_212_32 (by decide +kernel)) ?_
    refine Eq.trans (jr_s (pc2 := 37) (lv2 := [(6, .int 3), (7, .int a1), (0, .ref 117), (1, .int a1), (2, .int a2), (3, .int a3), (4, .int a4), (5, .int a5)]) (st2 := [.int 3]) jF_212_35 rfl rfl) ?_
    refine Eq.trans (jr_s (pc2 := 38) (lv2 := [(6, .int 3), (7, .int a1), (0, .ref 117), (1, .int a1), (2, .int a2), (3, .int a3), (4, .int a4), (5, .int a5)]) (st2 := [.int 4, .int 3]) jF_212_37 rfl rfl) ?_
    refine Eq.trans (jr_ic0 jF_212_38 (by decide +kernel)) ?_
    refine Eq.trans (jr_s (pc2 := 42) (lv2 := [(6, .int 3), (7, .int a1), (0, .ref 117), (1, .int a1), (2, .int a2), (3, .int a3), (4, .int a4), (5, .int a5)]) (st2 := [.int a1]) jF_212_41 rfl rfl) ?_
    refine Eq.trans (jr_s (pc2 := 81) (lv2 := [(6, .int 3), (7, .int a1), (0, .ref 117), (1, .int a1), (2, .int a2), (3, .int a3), (4, .int a4), (5, .int a5)]) (st2 := [.int a1]) jF_212_42 rfl rfl) ?_
    refine Eq.trans (jr_s (pc2 := 83) (lv2 := [(7, .int a1), (6, .int 3), (0, .ref 117), (1, .int a1), (2, .int a2), (3, .int a3), (4, .int a4), (5, .int a5)]) (st2 := []) jF_212_81 rfl rfl) ?_
    refine Eq.trans (jr_s (pc2 := 84) (lv2 := [(7, .int a1), (6, .int 3), (0, .ref 117), (1, .int a1), (2, .int a2), (3, .int a3), (4, .int a4), (5, .int a5)]) (st2 := [.ref 117]) jF_212_83 rfl rfl) ?_
    refine Eq.trans (jr_gf (v := .ref 118) jF_212_84 (rfl)) ?_
    refine Eq.trans (jr_s (pc2 := 88) (lv2 := [(7, .int a1), (6, .int 3), (0, .ref 117), (1, .int a1), (2, .int a2), (3, .int a3), (4, .int a4), (5, .int a5)]) (st2 := [.ref 117, .ref 118]) jF_212_87 rfl rfl) ?_
    refine Eq.trans (jr_gf (v := .int 3) jF_212_88 (rfl)) ?_
    refine Eq.trans (jr_s (pc2 := 93) (lv2 := [(7, .int a1), (6, .int 3), (0, .ref 117), (1, .int a1), (2, .int a2), (3, .int a3), (4, .int a4), (5, .int a5)]) (st2 := [.int a1, .int 3, .ref 118]) jF_212_91 rfl rfl) ?_
    refine Eq.trans (jr_s (pc2 := 95) (lv2 := [(7, .int a1), (6, .int 3), (0, .ref 117), (1, .int a1), (2, .int a2), (3, .int a3), (4, .int a4), (5, .int a5)]) (st2 := [.int 8, .int a1, .int 3, .ref 118]) jF_212_93 rfl rfl) ?_
    refine Eq.trans (jr_s (pc2 := 96) (lv2 := [(7, .int a1), (6, .int 3), (0, .ref 117), (1, .int a1), (2, .int a2), (3, .int a3), (4, .int a4), (5, .int a5)]) (st2 := [.int 3, .int 8, .int a1, .int 3, .ref 118]) jF_212_95 rfl rfl) ?_
    refine Eq.trans (jr_s (pc2 := 98) (lv2 := [(7, .int a1), (6, .int 3), (0, .ref 117), (1, .int a1), (2, .int a2), (3, .int a3), (4, .int a4), (5, .int a5)]) (st2 := [.int 3, .int 3, .int 8, .int a1, .int 3, .ref 118]) jF_212_96 rfl rfl) ?_
    refine Eq.trans (jr_s (pc2 := 99) (lv2 := [(7, .int a1), (6, .int 3), (0, .ref 117), (1, .int a1), (2, .int a2), (3, .int a3), (4, .int a4), (5, .int a5)]) (st2 := [.int 4, .int 3, .int 3, .int 8, .int a1, .int 3, .ref 118]) jF_212_98 rfl rfl) ?_
    refine Eq.trans (jr_s (pc2 := 100) (lv2 := [(7, .int a1), (6, .int 3), (0, .ref 117), (1, .int a1), (2, .int a2), (3, .int a3), (4, .int a4), (5, .int a5)]) (st2 := [.int 3, .int 3, .int 8, .int a1, .int 3, .ref 118]) jF_212_99 rfl rfl) ?_
    refine Eq.trans (jr_s (pc2 := 101) (lv2 := [(7, .int a1), (6, .int 3), (0, .ref 117), (1, .int a1), (2, .int a2), (3, .int a3), (4, .int a4), (5, .int a5)]) (st2 := [.int 0, .int 8, .int a1, .int 3, .ref 118]) jF_212_100 rfl rfl) ?_
    refine Eq.trans (jr_s (pc2 := 102) (lv2 := [(7, .int a1), (6, .int 3), (0, .ref 117), (1, .int a1), (2, .int a2), (3, .int a3), (4, .int a4), (5, .int a5)]) (st2 := [.int 0, .int a1, .int 3, .ref 118]) jF_212_101 rfl rfl) ?_
    refine Eq.trans (jr_s (pc2 := 103) (lv2 := [(7, .int a1), (6, .int 3), (0, .ref 117), (1, .int a1), (2, .int a2), (3, .int a3), (4, .int a4), (5, .int a5)]) (st2 := [.int (a1 >>> ((0 : Int32) &&& 31)), .int 3, .ref 118]) jF_212_102 rfl rfl) ?_
    refine Eq.trans (jr_s (pc2 := 106) (lv2 := [(7, .int a1), (6, .int 3), (0, .ref 117), (1, .int a1), (2, .int a2), (3, .int a3), (4, .int a4), (5, .int a5)]) (st2 := [.int 255, .int (a1 >>> ((0 : Int32) &&& 31)), .int 3, .ref 118]) jF_212_103 rfl rfl) ?_
    refine Eq.trans (jr_s (pc2 := 107) (lv2 := [(7, .int a1), (6, .int 3), (0, .ref 117), (1, .int a1), (2, .int a2), (3, .int a3), (4, .int a4), (5, .int a5)]) (st2 := [.int ((a1 >>> ((0 : Int32) &&& 31)) &&& 255), .int 3, .ref 118]) jF_212_106 rfl rfl) ?_
    refine Eq.trans (jr_sti (q := 3) jF_212_107 (rfl) (by decide +kernel)) ?_
    refine Eq.trans (jr_s (pc2 := 109) (lv2 := [(7, .int a1), (6, .int 3), (0, .ref 117), (1, .int a1), (2, .int a2), (3, .int a3), (4, .int a4), (5, .int a5)]) (st2 := [.ref 117]) jF_212_108 rfl rfl) ?_
    refine Eq.trans (jr_s (pc2 := 110) (lv2 := [(7, .int a1), (6, .int 3), (0, .ref 117), (1, .int a1), (2, .int a2), (3, .int a3), (4, .int a4), (5, .int a5)]) (st2 := [.ref 117, .ref 117]) jF_212_109 rfl rfl) ?_
    refine Eq.trans (jr_gf (v := .int 3) jF_212_110 (rfl)) ?_
    refine Eq.trans (jr_s (pc2 := 114) (lv2 := [(7, .int a1), (6, .int 3), (0, .ref 117), (1, .int a1), (2, .int a2), (3, .int a3), (4, .int a4), (5, .int a5)]) (st2 := [.int 1, .int 3, .ref 117]) jF_212_113 rfl rfl) ?_
    refine Eq.trans (jr_s (pc2 := 115) (lv2 := [(7, .int a1), (6, .int 3), (0, .ref 117), (1, .int a1), (2, .int a2), (3, .int a3), (4, .int a4), (5, .int a5)]) (st2 := [.int 4, .ref 117]) jF_212_114 rfl rfl) ?_
    refine Eq.trans (jr_pf jF_212_115 (rfl) rfl) ?_
    refine Eq.trans (jr_s (pc2 := 121) (lv2 := [(6, .int 4), (7, .int a1), (0, .ref 117), (1, .int a1), (2, .int a2), (3, .int a3), (4, .int a4), (5, .int a5)]) (st2 := []) jF_212_118 rfl rfl) ?_
    refine Eq.trans (jr_s (pc2 := 28) (lv2 := [(6, .int 4), (7, .int a1), (0, .ref 117), (1, .int a1), (2, .int a2), (3, .int a3), (4, .int a4), (5, .int a5)]) (st2 := []) jF_212_121 rfl rfl) ?_
    refine Eq.trans (jr_s (pc2 := 30) (lv2 := [(6, .int 4), (7, .int a1), (0, .ref 117), (1, .int a1), (2, .int a2), (3, .int a3), (4, .int a4), (5, .int a5)]) (st2 := [.int 4]) jF_212_28 rfl rfl) ?_
    refine Eq.trans (jr_s (pc2 := 32) (lv2 := [(6, .int 4), (7, .int a1), (0, .ref 117), (1, .int a1), (2, .int a2), (3, .int a3), (4, .int a4), (5, .int a5)]) (st2 := [.int 20, .int 4]) jF_212_30 rfl rfl) ?_
    refine Eq.trans (jr_ic0 jF_212_32 (by decide +kernel)) ?_
    refine Eq.trans (jr_s (pc2 := 37) (lv2 := [(6, .int 4), (7, .int a1), (0, .ref 117), (1, .int a1), (2, .int a2), (3, .int a3), (4, .int a4), (5, .int a5)]) (st2 := [.int 4]) jF_212_35 rfl rfl) ?_
    refine Eq.trans (jr_s (pc2 := 38) (lv2 := [(6, .int 4), (7, .int a1), (0, .ref 117), (1, .int a1), (2, .int a2), (3, .int a3), (4, .int a4), (5, .int a5)]) (st2 := [.int 4, .int 4]) jF_212_37 rfl rfl) ?_
    refine Eq.trans (jr_ic1 jF_212_38 (by decide +kernel)) ?_
    refine Eq.trans (jr_s (pc2 := 47) (lv2 := [(6, .int 4), (7, .int a1), (0, .ref 117), (1, .int a1), (2, .int a2), (3, .int a3), (4, .int a4), (5, .int a5)]) (st2 := [.int 4]) jF_212_45 rfl rfl) ?_
    refine Eq.trans (jr_s (pc2 := 49) (lv2 := [(6, .int 4), (7, .int a1), (0, .ref 117), (1, .int a1), (2, .int a2), (3, .int a3), (4, .int a4), (5, .int a5)]) (st2 := [.int 8, .int 4]) jF_212_47 rfl rfl) ?_
    refine Eq.trans (jr_ic0 jF_212_49 (by decide +kernel)) ?_
    refine Eq.trans (jr_s (pc2 := 53) (lv2 := [(6, .int 4), (7, .int a1), (0, .ref 117), (1, .int a1), (2, .int a2), (3, .int a3), (4, .int a4), (5, .int a5)]) (st2 := [.int a2]) jF_212_52 rfl rfl) ?_
    refine Eq.trans (jr_s (pc2 := 81) (lv2 := [(6, .int 4), (7, .int a1), (0, .ref 117), (1, .int a1), (2, .int a2), (3, .int a3), (4, .int a4), (5, .int a5)]) (st2 := [.int a2]) jF_212_53 rfl rfl) ?_
    refine Eq.trans (jr_s (pc2 := 83) (lv2 := [(7, .int a2), (6, .int 4), (0, .ref 117), (1, .int a1), (2, .int a2), (3, .int a3), (4, .int a4), (5, .int a5)]) (st2 := []) jF_212_81 rfl rfl) ?_
    refine Eq.trans (jr_s (pc2 := 84) (lv2 := [(7, .int a2), (6, .int 4), (0, .ref 117), (1, .int a1), (2, .int a2), (3, .int a3), (4, .int a4), (5, .int a5)]) (st2 := [.ref 117]) jF_212_83 rfl rfl) ?_
    refine Eq.trans (jr_gf (v := .ref 118) jF_212_84 (rfl)) ?_
    refine Eq.trans (jr_s (pc2 := 88) (lv2 := [(7, .int a2), (6, .int 4), (0, .ref 117), (1, .int a1), (2, .int a2), (3, .int a3), (4, .int a4), (5, .int a5)]) (st2 := [.ref 117, .ref 118]) jF_212_87 rfl rfl) ?_
    refine Eq.trans (jr_gf (v := .int 4) jF_212_88 (rfl)) ?_
    refine Eq.trans (jr_s (pc2 := 93) (lv2 := [(7, .int a2), (6, .int 4), (0, .ref 117), (1, .int a1), (2, .int a2), (3, .int a3), (4, .int a4), (5, .int a5)]) (st2 := [.int a2, .int 4, .ref 118]) jF_212_91 rfl rfl) ?_
    refine Eq.trans (jr_s (pc2 := 95) (lv2 := [(7, .int a2), (6, .int 4), (0, .ref 117), (1, .int a1), (2, .int a2), (3, .int a3), (4, .int a4), (5, .int a5)]) (st2 := [.int 8, .int a2, .int 4, .ref 118]) jF_212_93 rfl rfl) ?_
    refine Eq.trans (jr_s (pc2 := 96) (lv2 := [(7, .int a2), (6, .int 4), (0, .ref 117), (1, .int a1), (2, .int a2), (3, .int a3), (4, .int a4), (5, .int a5)]) (st2 := [.int 3, .int 8, .int a2, .int 4, .ref 118]) jF_212_95 rfl rfl) ?_
    refine Eq.trans (jr_s (pc2 := 98) (lv2 := [(7, .int a2), (6, .int 4), (0, .ref 117), (1, .int a1), (2, .int a2), (3, .int a3), (4, .int a4), (5, .int a5)]) (st2 := [.int 4, .int 3, .int 8, .int a2, .int 4, .ref 118]) jF_212_96 rfl rfl) ?_
    refine Eq.trans (jr_s (pc2 := 99) (lv2 := [(7, .int a2), (6, .int 4), (0, .ref 117), (1, .int a1), (2, .int a2), (3, .int a3), (4, .int a4), (5, .int a5)]) (st2 := [.int 4, .int 4, .int 3, .int 8, .int a2, .int 4, .ref 118]) jF_212_98 rfl rfl) ?_
    refine Eq.trans (jr_s (pc2 := 100) (lv2 := [(7, .int a2), (6, .int 4), (0, .ref 117), (1, .int a1), (2, .int a2), (3, .int a3), (4, .int a4), (5, .int a5)]) (st2 := [.int 0, .int 3, .int 8, .int a2, .int 4, .ref 118]) jF_212_99 rfl rfl) ?_
    refine Eq.trans (jr_s (pc2 := 101) (lv2 := [(7, .int a2), (6, .int 4), (0, .ref 117), (1, .int a1), (2, .int a2), (3, .int a3), (4, .int a4), (5, .int a5)]) (st2 := [.int 3, .int 8, .int a2, .int 4, .ref 118]) jF_212_100 rfl rfl) ?_
    refine Eq.trans (jr_s (pc2 := 102) (lv2 := [(7, .int a2), (6, .int 4), (0, .ref 117), (1, .int a1), (2, .int a2), (3, .int a3), (4, .int a4), (5, .int a5)]) (st2 := [.int 24, .int a2, .int 4, .ref 118]) jF_212_101 rfl rfl) ?_
    refine Eq.trans (jr_s (pc2 := 103) (lv2 := [(7, .int a2), (6, .int 4), (0, .ref 117), (1, .int a1), (2, .int a2), (3, .int a3), (4, .int a4), (5, .int a5)]) (st2 := [.int (a2 >>> ((24 : Int32) &&& 31)), .int 4, .ref 118]) jF_212_102 rfl rfl) ?_
    refine Eq.trans (jr_s (pc2 := 106) (lv2 := [(7, .int a2), (6, .int 4), (0, .ref 117), (1, .int a1), (2, .int a2), (3, .int a3), (4, .int a4), (5, .int a5)]) (st2 := [.int 255, .int (a2 >>> ((24 : Int32) &&& 31)), .int 4, .ref 118]) jF_212_103 rfl rfl) ?_
    refine Eq.trans (jr_s (pc2 := 107) (lv2 := [(7, .int a2), (6, .int 4), (0, .ref 117), (1, .int a1), (2, .int a2), (3, .int a3), (4, .int a4), (5, .int a5)]) (st2 := [.int ((a2 >>> ((24 : Int32) &&& 31)) &&& 255), .int 4, .ref 118]) jF_212_106 rfl rfl) ?_
    refine Eq.trans (jr_sti (q := 4) jF_212_107 (rfl) (by decide +kernel)) ?_
    refine Eq.trans (jr_s (pc2 := 109) (lv2 := [(7, .int a2), (6, .int 4), (0, .ref 117), (1, .int a1), (2, .int a2), (3, .int a3), (4, .int a4), (5, .int a5)]) (st2 := [.ref 117]) jF_212_108 rfl rfl) ?_
    refine Eq.trans (jr_s (pc2 := 110) (lv2 := [(7, .int a2), (6, .int 4), (0, .ref 117), (1, .int a1), (2, .int a2), (3, .int a3), (4, .int a4), (5, .int a5)]) (st2 := [.ref 117, .ref 117]) jF_212_109 rfl rfl) ?_
    refine Eq.trans (jr_gf (v := .int 4) jF_212_110 (rfl)) ?_
    refine Eq.trans (jr_s (pc2 := 114) (lv2 := [(7, .int a2), (6, .int 4), (0, .ref 117), (1, .int a1), (2, .int a2), (3, .int a3), (4, .int a4), (5, .int a5)]) (st2 := [.int 1, .int 4, .ref 117]) jF_212_113 rfl rfl) ?_
    refine Eq.trans (jr_s (pc2 := 115) (lv2 := [(7, .int a2), (6, .int 4), (0, .ref 117), (1, .int a1), (2, .int a2), (3, .int a3), (4, .int a4), (5, .int a5)]) (st2 := [.int 5, .ref 117]) jF_212_114 rfl rfl) ?_
    refine Eq.trans (jr_pf jF_212_115 (rfl) rfl) ?_
    refine Eq.trans (jr_s (pc2 := 121) (lv2 := [(6, .int 5), (7, .int a2), (0, .ref 117), (1, .int a1), (2, .int a2), (3, .int a3), (4, .int a4), (5, .int a5)]) (st2 := []) jF_212_118 rfl rfl) ?_
    refine Eq.trans (jr_s (pc2 := 28) (lv2 := [(6, .int 5), (7, .int a2), (0, .ref 117), (1, .int a1), (2, .int a2), (3, .int a3), (4, .int a4), (5, .int a5)]) (st2 := []) jF_212_121 rfl rfl) ?_
    refine Eq.trans (jr_s (pc2 := 30) (lv2 := [(6, .int 5), (7, .int a2), (0, .ref 117), (1, .int a1), (2, .int a2), (3, .int a3), (4, .int a4), (5, .int a5)]) (st2 := [.int 5]) jF_212_28 rfl rfl) ?_
    refine Eq.trans (jr_s (pc2 := 32) (lv2 := [(6, .int 5), (7, .int a2), (0, .ref 117), (1, .int a1), (2, .int a2), (3, .int a3), (4, .int a4), (5, .int a5)]) (st2 := [.int 20, .int 5]) jF_212_30 rfl rfl) ?_
    refine Eq.trans (jr_ic0 jF_212_32 (by decide +kernel)) ?_
    refine Eq.trans (jr_s (pc2 := 37) (lv2 := [(6, .int 5), (7, .int a2), (0, .ref 117), (1, .int a1), (2, .int a2), (3, .int a3), (4, .int a4), (5, .int a5)]) (st2 := [.int 5]) jF_212_35 rfl rfl) ?_
    refine Eq.trans (jr_s (pc2 := 38) (lv2 := [(6, .int 5), (7, .int a2), (0, .ref 117), (1, .int a1), (2, .int a2), (3, .int a3), (4, .int a4), (5, .int a5)]) (st2 := [.int 4, .int 5]) jF_212_37 rfl rfl) ?_
    refine Eq.trans (jr_ic1 jF_212_38 (by decide +kernel)) ?_
    refine Eq.trans (jr_s (pc2 := 47) (lv2 := [(6, .int 5), (7, .int a2), (0, .ref 117), (1, .int a1), (2, .int a2), (3, .int a3), (4, .int a4), (5, .int a5)]) (st2 := [.int 5]) jF_212_45 rfl rfl) ?_
    refine Eq.trans (jr_s (pc2 := 49) (lv2 := [(6, .int 5), (7, .int a2), (0, .ref 117), (1, .int a1), (2, .int a2), (3, .int a3), (4, .int a4), (5, .int a5)]) (st2 := [.int 8, .int 5]) jF_212_47 rfl rfl) ?_
    refine Eq.trans (jr_ic0 jF_212_49 (by decide +kernel)) ?_
    refine Eq.trans (jr_s (pc2 := 53) (lv2 := [(6, .int 5), (7, .int a2), (0, .ref 117), (1, .int a1), (2, .int a2), (3, .int a3), (4, .int a4), (5, .int a5)]) (st2 := [.int a2]) jF_212_52 rfl rfl) ?_
    refine Eq.trans (jr_s (pc2 := 81) (lv2 := [(6, .int 5), (7, .int a2), (0, .ref 117), (1, .int a1), (2, .int a2), (3, .int a3), (4, .int a4), (5, .int a5)]) (st2 := [.int a2]) jF_212_53 rfl rfl) ?_
    refine Eq.trans (jr_s (pc2 := 83) (lv2 := [(7, .int a2), (6, .int 5), (0, .ref 117), (1, .int a1), (2, .int a2), (3, .int a3), (4, .int a4), (5, .int a5)]) (st2 := []) jF_212_81 rfl rfl) ?_
    refine Eq.trans (jr_s (pc2 := 84) (lv2 := [(7, .int a2), (6, .int 5), (0, .ref 117), (1, .int a1), (2, .int a2), (3, .int a3), (4, .int a4), (5, .int a5)]) (st2 := [.ref 117]) jF_212_83 rfl rfl) ?_
    refine Eq.trans (jr_gf (v := .ref 118) jF_212_84 (rfl)) ?_
    refine Eq.trans (jr_s (pc2 := 88) (lv2 := [(7, .int a2), (6, .int 5), (0, .ref 117), (1, .int a1), (2, .int a2), (3, .int a3), (4, .int a4), (5, .int a5)]) (st2 := [.ref 117, .ref 118]) jF_212_87 rfl rfl) ?_
    refine Eq.trans (jr_gf (v := .int 5) jF_212_88 (rfl)) ?_
    refine Eq.trans (jr_s (pc2 := 93) (lv2 := [(7, .int a2), (6, .int 5), (0, .ref 117), (1, .int a1), (2, .int a2), (3, .int a3), (4, .int a4), (5, .int a5)]) (st2 := [.int a2, .int 5, .ref 118]) jF_212_91 rfl rfl) ?_
    refine Eq.trans (jr_s (pc2 := 95) (lv2 := [(7, .int a2), (6, .int 5), (0, .ref 117), (1, .int a1), (2, .int a2), (3, .int a3), (4, .int a4), (5, .int a5)]) (st2 := [.int 8, .int a2, .int 5, .ref 118]) jF_212_93 rfl rfl) ?_
    refine Eq.trans (jr_s (pc2 := 96) (lv2 := [(7, .int a2), (6, .int 5), (0, .ref 117), (1, .int a1), (2, .int a2), (3, .int a3), (4, .int a4), (5, .int a5)]) (st2 := [.int 3, .int 8, .int a2, .int 5, .ref 118]) jF_212_95 rfl rfl) ?_
    refine Eq.trans (jr_s (pc2 := 98) (lv2 := [(7, .int a2), (6, .int 5), (0, .ref 117), (1, .int a1), (2, .int a2), (3, .int a3), (4, .int a4), (5, .int a5)]) (st2 := [.int 5, .int 3, .int 8, .int a2, .int 5, .ref 118]) jF_212_96 rfl rfl) ?_
    refine Eq.trans (jr_s (pc2 := 99) (lv2 := [(7, .int a2), (6, .int 5), (0, .ref 117), (1, .int a1), (2, .int a2), (3, .int a3), (4, .int a4), (5, .int a5)]) (st2 := [.int 4, .int 5, .int 3, .int 8, .int a2, .int 5, .ref 118]) jF_212_98 rfl rfl) ?_
    refine Eq.trans (jr_s (pc2 := 100) (lv2 := [(7, .int a2), (6, .int 5), (0, .ref 117), (1, .int a1), (2, .int a2), (3, .int a3), (4, .int a4), (5, .int a5)]) (st2 := [.int 1, .int 3, .int 8, .int a2, .int 5, .ref 118]) jF_212_99 rfl rfl) ?_
    refine Eq.trans (jr_s (pc2 := 101) (lv2 := [(7, .int a2), (6, .int 5), (0, .ref 117), (1, .int a1), (2, .int a2), (3, .int a3), (4, .int a4), (5, .int a5)]) (st2 := [.int 2, .int 8, .int a2, .int 5, .ref 118]) jF_212_100 rfl rfl) ?_
    refine Eq.trans (jr_s (pc2 := 102) (lv2 := [(7, .int a2), (6, .int 5), (0, .ref 117), (1, .int a1), (2, .int a2), (3, .int a3), (4, .int a4), (5, .int a5)]) (st2 := [.int 16, .int a2, .int 5, .ref 118]) jF_212_101 rfl rfl) ?_
    refine Eq.trans (jr_s (pc2 := 103) (lv2 := [(7, .int a2), (6, .int 5), (0, .ref 117), (1, .int a1), (2, .int a2), (3, .int a3), (4, .int a4), (5, .int a5)]) (st2 := [.int (a2 >>> ((16 : Int32) &&& 31)), .int 5, .ref 118]) jF_212_102 rfl rfl) ?_
    refine Eq.trans (jr_s (pc2 := 106) (lv2 := [(7, .int a2), (6, .int 5), (0, .ref 117), (1, .int a1), (2, .int a2), (3, .int a3), (4, .int a4), (5, .int a5)]) (st2 := [.int 255, .int (a2 >>> ((16 : Int32) &&& 31)), .int 5, .ref 118]) jF_212_103 rfl rfl) ?_
    refine Eq.trans (jr_s (pc2 := 107) (lv2 := [(7, .int a2), (6, .int 5), (0, .ref 117), (1, .int a1), (2, .int a2), (3, .int a3), (4, .int a4), (5, .int a5)]) (st2 := [.int ((a2 >>> ((16 : Int32) &&& 31)) &&& 255), .int 5, .ref 118]) jF_212_106 rfl rfl) ?_
    refine Eq.trans (jr_sti (q := 5) jF_212_107 (rfl) (by decide +kernel)) ?_
    refine Eq.trans (jr_s (pc2 := 109) (lv2 := [(7, .int a2), (6, .int 5), (0, .ref 117), (1, .int a1), (2, .int a2), (3, .int a3), (4, .int a4), (5, .int a5)]) (st2 := [.ref 117]) jF_212_108 rfl rfl) ?_
    refine Eq.trans (jr_s (pc2 := 110) (lv2 := [(7, .int a2), (6, .int 5), (0, .ref 117), (1, .int a1), (2, .int a2), (3, .int a3), (4, .int a4), (5, .int a5)]) (st2 := [.ref 117, .ref 117]) jF_212_109 rfl rfl) ?_
    refine Eq.trans (jr_gf (v := .int 5) jF_212_110 (rfl)) ?_
    refine Eq.trans (jr_s (pc2 := 114) (lv2 := [(7, .int a2), (6, .int 5), (0, .ref 117), (1, .int a1), (2, .int a2), (3, .int a3), (4, .int a4), (5, .int a5)]) (st2 := [.int 1, .int 5, .ref 117]) jF_212_113 rfl rfl) ?_
    refine Eq.trans (jr_s (pc2 := 115) (lv2 := [(7, .int a2), (6, .int 5), (0, .ref 117), (1, .int a1), (2, .int a2), (3, .int a3), (4, .int a4), (5, .int a5)]) (st2 := [.int 6, .ref 117]) jF_212_114 rfl rfl) ?_
    refine Eq.trans (jr_pf jF_212_115 (rfl) rfl) ?_
    refine Eq.trans (jr_s (pc2 := 121) (lv2 := [(6, .int 6), (7, .int a2), (0, .ref 117), (1, .int a1), (2, .int a2), (3, .int a3), (4, .int a4), (5, .int a5)]) (st2 := []) jF_212_118 rfl rfl) ?_
    refine Eq.trans (jr_s (pc2 := 28) (lv2 := [(6, .int 6), (7, .int a2), (0, .ref 117), (1, .int a1), (2, .int a2), (3, .int a3), (4, .int a4), (5, .int a5)]) (st2 := []) jF_212_121 rfl rfl) ?_
    refine Eq.trans (jr_s (pc2 := 30) (lv2 := [(6, .int 6), (7, .int a2), (0, .ref 117), (1, .int a1), (2, .int a2), (3, .int a3), (4, .int a4), (5, .int a5)]) (st2 := [.int 6]) jF_212_28 rfl rfl) ?_
    refine Eq.trans (jr_s (pc2 := 32) (lv2 := [(6, .int 6), (7, .int a2), (0, .ref 117), (1, .int a1), (2, .int a2), (3, .int a3), (4, .int a4), (5, .int a5)]) (st2 := [.int 20, .int 6]) jF_212_30 rfl rfl) ?_
    refine Eq.trans (jr_ic0 jF_212_32 (by decide +kernel)) ?_
    refine Eq.trans (jr_s (pc2 := 37) (lv2 := [(6, .int 6), (7, .int a2), (0, .ref 117), (1, .int a1), (2, .int a2), (3, .int a3), (4, .int a4), (5, .int a5)]) (st2 := [.int 6]) jF_212_35 rfl rfl) ?_
    refine Eq.trans (jr_s (pc2 := 38) (lv2 := [(6, .int 6), (7, .int a2), (0, .ref 117), (1, .int a1), (2, .int a2), (3, .int a3), (4, .int a4), (5, .int a5)]) (st2 := [.int 4, .int 6]) jF_212_37 rfl rfl) ?_
    refine Eq.trans (jr_ic1 jF_212_38 (by decide +kernel)) ?_
    refine Eq.trans (jr_s (pc2 := 47) (lv2 := [(6, .int 6), (7, .int a2), (0, .ref 117), (1, .int a1), (2, .int a2), (3, .int a3), (4, .int a4), (5, .int a5)]) (st2 := [.int 6]) jF_212_45 rfl rfl) ?_
    refine Eq.trans (jr_s (pc2 := 49) (lv2 := [(6, .int 6), (7, .int a2), (0, .ref 117), (1, .int a1), (2, .int a2), (3, .int a3), (4, .int a4), (5, .int a5)]) (st2 := [.int 8, .int 6]) jF_212_47 rfl rfl) ?_
    refine Eq.trans (jr_ic0 jF_212_49 (by decide +kernel)) ?_
    refine Eq.trans (jr_s (pc2 := 53) (lv2 := [(6, .int 6), (7, .int a2), (0, .ref 117), (1, .int a1), (2, .int a2), (3, .int a3), (4, .int a4), (5, .int a5)]) (st2 := [.int a2]) jF_212_52 rfl rfl) ?_
    refine Eq.trans (jr_s (pc2 := 81) (lv2 := [(6, .int 6), (7, .int a2), (0, .ref 117), (1, .int a1), (2, .int a2), (3, .int a3), (4, .int a4), (5, .int a5)]) (st2 := [.int a2]) jF_212_53 rfl rfl) ?_
    refine Eq.trans (jr_s (pc2 := 83) (lv2 := [(7, .int a2), (6, .int 6), (0, .ref 117), (1, .int a1), (2, .int a2), (3, .int a3), (4, .int a4), (5, .int a5)]) (st2 := []) jF_212_81 rfl rfl) ?_
    refine Eq.trans (jr_s (pc2 := 84) (lv2 := [(7, .int a2), (6, .int 6), (0, .ref 117), (1, .int a1), (2, .int a2), (3, .int a3), (4, .int a4), (5, .int a5)]) (st2 := [.ref 117]) jF_212_83 rfl rfl) ?_
    refine Eq.trans (jr_gf (v := .ref 118) jF_212_84 (rfl)) ?_
    refine Eq.trans (jr_s (pc2 := 88) (lv2 := [(7, .int a2), (6, .int 6), (0, .ref 117), (1, .int a1), (2, .int a2), (3, .int a3), (4, .int a4), (5, .int a5)]) (st2 := [.ref 117, .ref 118]) jF_212_87 rfl rfl) ?_
    refine Eq.trans (jr_gf (v := .int 6) jF_212_88 (rfl)) ?_
    refine Eq.trans (jr_s (pc2 := 93) (lv2 := [(7, .int a2), (6, .int 6), (0, .ref 117), (1, .int a1), (2, .int a2), (3, .int a3), (4, .int a4), (5, .int a5)]) (st2 := [.int a2, .int 6, .ref 118]) jF_212_91 rfl rfl) ?_
    refine Eq.trans (jr_s (pc2 := 95) (lv2 := [(7, .int a2), (6, .int 6), (0, .ref 117), (1, .int a1), (2, .int a2), (3, .int a3), (4, .int a4), (5, .int a5)]) (st2 := [.int 8, .int a2, .int 6, .ref 118]) jF_212_93 rfl rfl) ?_
    refine Eq.trans (jr_s (pc2 := 96) (lv2 := [(7, .int a2), (6, .int 6), (0, .ref 117), (1, .int a1), (2, .int a2), (3, .int a3), (4, .int a4), (5, .int a5)]) (st2 := [.int 3, .int 8, .int a2, .int 6, .ref 118]) jF_212_95 rfl rfl) ?_
    refine Eq.trans (jr_s (pc2 := 98) (lv2 := [(7, .int a2), (6, .int 6), (0, .ref 117), (1, .int a1), (2, .int a2), (3, .int a3), (4, .int a4), (5, .int a5)]) (st2 := [.int 6, .int 3, .int 8, .int a2, .int 6, .ref 118]) jF_212_96 rfl rfl) ?_
    refine Eq.trans (jr_s (pc2 := 99) (lv2 := [(7, .int a2), (6, .int 6), (0, .ref 117), (1, .int a1), (2, .int a2), (3, .int a3), (4, .int a4), (5, .int a5)]) (st2 := [.int 4, .int 6, .int 3, .int 8, .int a2, .int 6, .ref 118]) jF_212_98 rfl rfl) ?_
    refine Eq.trans (jr_s (pc2 := 100) (lv2 := [(7, .int a2), (6, .int 6), (0, .ref 117), (1, .int a1), (2, .int a2), (3, .int a3), (4, .int a4), (5, .int a5)]) (st2 := [.int 2, .int 3, .int 8, .int a2, .int 6, .ref 118]) jF_212_99 rfl rfl) ?_
    refine Eq.trans (jr_s (pc2 := 101) (lv2 := [(7, .int a2), (6, .int 6), (0, .ref 117), (1, .int a1), (2, .int a2), (3, .int a3), (4, .int a4), (5, .int a5)]) (st2 := [.int 1, .int 8, .int a2, .int 6, .ref 118]) jF_212_100 rfl rfl) ?_
    refine Eq.trans (jr_s (pc2 := 102) (lv2 := [(7, .int a2), (6, .int 6), (0, .ref 117), (1, .int a1), (2, .int a2), (3, .int a3), (4, .int a4), (5, .int a5)]) (st2 := [.int 8, .int a2, .int 6, .ref 118]) jF_212_101 rfl rfl) ?_
    refine Eq.trans (jr_s (pc2 := 103) (lv2 := [(7, .int a2), (6, .int 6), (0, .ref 117), (1, .int a1), (2, .int a2), (3, .int a3), (4, .int a4), (5, .int a5)]) (st2 := [.int (a2 >>> ((8 : Int32) &&& 31)), .int 6, .ref 118]) jF_212_102 rfl rfl) ?_
    refine Eq.trans (jr_s (pc2 := 106) (lv2 := [(7, .int a2), (6, .int 6), (0, .ref 117), (1, .int a1), (2, .int a2), (3, .int a3), (4, .int a4), (5, .int a5)]) (st2 := [.int 255, .int (a2 >>> ((8 : Int32) &&& 31)), .int 6, .ref 118]) jF_212_103 rfl rfl) ?_
    refine Eq.trans (jr_s (pc2 := 107) (lv2 := [(7, .int a2), (6, .int 6), (0, .ref 117), (1, .int a1), (2, .int a2), (3, .int a3), (4, .int a4), (5, .int a5)]) (st2 := [.int ((a2 >>> ((8 : Int32) &&& 31)) &&& 255), .int 6, .ref 118]) jF_212_106 rfl rfl) ?_
    refine Eq.trans (jr_sti (q := 6) jF_212_107 (rfl) (by decide +kernel)) ?_
    refine Eq.trans (jr_s (pc2 := 109) (lv2 := [(7, .int a2), (6, .int 6), (0, .ref 117), (1, .int a1), (2, .int a2), (3, .int a3), (4, .int a4), (5, .int a5)]) (st2 := [.ref 117]) jF_212_108 rfl rfl) ?_
    refine Eq.trans (jr_s (pc2 := 110) (lv2 := [(7, .int a2), (6, .int 6), (0, .ref 117), (1, .int a1), (2, .int a2), (3, .int a3), (4, .int a4), (5, .int a5)]) (st2 := [.ref 117, .ref 117]) jF_212_109 rfl rfl) ?_
    refine Eq.trans (jr_gf (v := .int 6) jF_212_110 (rfl)) ?_
    refine Eq.trans (jr_s (pc2 := 114) (lv2 := [(7, .int a2), (6, .int 6), (0, .ref 117), (1, .int a1), (2, .int a2), (3, .int a3), (4, .int a4), (5, .int a5)]) (st2 := [.int 1, .int 6, .ref 117]) jF_212_113 rfl rfl) ?_
    refine Eq.trans (jr_s (pc2 := 115) (lv2 := [(7, .int a2), (6, .int 6), (0, .ref 117), (1, .int a1), (2, .int a2), (3, .int a3), (4, .int a4), (5, .int a5)]) (st2 := [.int 7, .ref 117]) jF_212_114 rfl rfl) ?_
    refine Eq.trans (jr_pf jF_212_115 (rfl) rfl) ?_
    refine Eq.trans (jr_s (pc2 := 121) (lv2 := [(6, .int 7), (7, .int a2), (0, .ref 117), (1, .int a1), (2, .int a2), (3, .int a3), (4, .int a4), (5, .int a5)]) (st2 := []) jF_212_118 rfl rfl) ?_
    refine Eq.trans (jr_s (pc2 := 28) (lv2 := [(6, .int 7), (7, .int a2), (0, .ref 117), (1, .int a1), (2, .int a2), (3, .int a3), (4, .int a4), (5, .int a5)]) (st2 := []) jF_212_121 rfl rfl) ?_
    refine Eq.trans (jr_s (pc2 := 30) (lv2 := [(6, .int 7), (7, .int a2), (0, .ref 117), (1, .int a1), (2, .int a2), (3, .int a3), (4, .int a4), (5, .int a5)]) (st2 := [.int 7]) jF_212_28 rfl rfl) ?_
    refine Eq.trans (jr_s (pc2 := 32) (lv2 := [(6, .int 7), (7, .int a2), (0, .ref 117), (1, .int a1), (2, .int a2), (3, .int a3), (4, .int a4), (5, .int a5)]) (st2 := [.int 20, .int 7]) jF_212_30 rfl rfl) ?_
    refine Eq.trans (jr_ic0 jF_212_32 (by decide +kernel)) ?_
    refine Eq.trans (jr_s (pc2 := 37) (lv2 := [(6, .int 7), (7, .int a2), (0, .ref 117), (1, .int a1), (2, .int a2), (3, .int a3), (4, .int a4), (5, .int a5)]) (st2 := [.int 7]) jF_212_35 rfl rfl) ?_
    refine Eq.trans (jr_s (pc2 := 38) (lv2 := [(6, .int 7), (7, .int a2), (0, .ref 117), (1, .int a1), (2, .int a2), (3, .int a3), (4, .int a4), (5, .int a5)]) (st2 := [.int 4, .int 7]) jF_212_37 rfl rfl) ?_
    refine Eq.trans (jr_ic1 jF_212_38 (by decide +kernel)) ?_
    refine Eq.trans (jr_s (pc2 := 47) (lv2 := [(6, .int 7), (7, .int a2), (0, .ref 117), (1, .int a1), (2, .int a2), (3, .int a3), (4, .int a4), (5, .int a5)]) (st2 := [.int 7]) jF_212_45 rfl rfl) ?_
    refine Eq.trans (jr_s (pc2 := 49) (lv2 := [(6, .int 7), (7, .int a2), (0, .ref 117), (1, .int a1), (2, .int a2), (3, .int a3), (4, .int a4), (5, .int a5)]) (st2 := [.int 8, .int 7]) jF_212_47 rfl rfl) ?_
    refine Eq.trans (jr_ic0 jF_212_49 (by decide +kernel)) ?_
    refine Eq.trans (jr_s (pc2 := 53) (lv2 := [(6, .int 7), (7, .int a2), (0, .ref 117), (1, .int a1), (2, .int a2), (3, .int a3), (4, .int a4), (5, .int a5)]) (st2 := [.int a2]) jF_212_52 rfl rfl) ?_
    refine Eq.trans (jr_s (pc2 := 81) (lv2 := [(6, .int 7), (7, .int a2), (0, .ref 117), (1, .int a1), (2, .int a2), (3, .int a3), (4, .int a4), (5, .int a5)]) (st2 := [.int a2]) jF_212_53 rfl rfl) ?_
    refine Eq.trans (jr_s (pc2 := 83) (lv2 := [(7, .int a2), (6, .int 7), (0, .ref 117), (1, .int a1), (2, .int a2), (3, .int a3), (4, .int a4), (5, .int a5)]) (st2 := []) jF_212_81 rfl rfl) ?_
    refine Eq.trans (jr_s (pc2 := 84) (lv2 := [(7, .int a2), (6, .int 7), (0, .ref 117), (1, .int a1), (2, .int a2), (3, .int a3), (4, .int a4), (5, .int a5)]) (st2 := [.ref 117]) jF_212_83 rfl rfl) ?_
    refine Eq.trans (jr_gf (v := .ref 118) jF_212_84 (rfl)) ?_
    refine Eq.trans (jr_s (pc2 := 88) (lv2 := [(7, .int a2), (6, .int 7), (0, .ref 117), (1, .int a1), (2, .int a2), (3, .int a3), (4, .int a4), (5, .int a5)]) (st2 := [.ref 117, .ref 118]) jF_212_87 rfl rfl) ?_
    refine Eq.trans (jr_gf (v := .int 7) jF_212_88 (rfl)) ?_
    refine Eq.trans (jr_s (pc2 := 93) (lv2 := [(7, .int a2), (6, .int 7), (0, .ref 117), (1, .int a1), (2, .int a2), (3, .int a3), (4, .int a4), (5, .int a5)]) (st2 := [.int a2, .int 7, .ref 118]) jF_212_91 rfl rfl) ?_
    refine Eq.trans (jr_s (pc2 := 95) (lv2 := [(7, .int a2), (6, .int 7), (0, .ref 117), (1, .int a1), (2, .int a2), (3, .int a3), (4, .int a4), (5, .int a5)]) (st2 := [.int 8, .int a2, .int 7, .ref 118]) jF_212_93 rfl rfl) ?_
    refine Eq.trans (jr_s (pc2 := 96) (lv2 := [(7, .int a2), (6, .int 7), (0, .ref 117), (1, .int a1), (2, .int a2), (3, .int a3), (4, .int a4), (5, .int a5)]) (st2 := [.int 3, .int 8, .int a2, .int 7, .ref 118]) jF_212_95 rfl rfl) ?_
    refine Eq.trans (jr_s (pc2 := 98) (lv2 := [(7, .int a2), (6, .int 7), (0, .ref 117), (1, .int a1), (2, .int a2), (3, .int a3), (4, .int a4), (5, .int a5)]) (st2 := [.int 7, .int 3, .int 8, .int a2, .int 7, .ref 118]) jF_212_96 rfl rfl) ?_
    refine Eq.trans (jr_s (pc2 := 99) (lv2 := [(7, .int a2), (6, .int 7), (0, .ref 117), (1, .int a1), (2, .int a2), (3, .int a3), (4, .int a4), (5, .int a5)]) (st2 := [.int 4, .int 7, .int 3, .int 8, .int a2, .int 7, .ref 118]) jF_212_98 rfl rfl) ?_
    refine Eq.trans (jr_s (pc2 := 100) (lv2 := [(7, .int a2), (6, .int 7), (0, .ref 117), (1, .int a1), (2, .int a2), (3, .int a3), (4, .int a4), (5, .int a5)]) (st2 := [.int 3, .int 3, .int 8, .int a2, .int 7, .ref 118]) jF_212_99 rfl rfl) ?_
    refine Eq.trans (jr_s (pc2 := 101) (lv2 := [(7, .int a2), (6, .int 7), (0, .ref 117), (1, .int a1), (2, .int a2), (3, .int a3), (4, .int a4), (5, .int a5)]) (st2 := [.int 0, .int 8, .int a2, .int 7, .ref 118]) jF_212_100 rfl rfl) ?_
    refine Eq.trans (jr_s (pc2 := 102) (lv2 := [(7, .int a2), (6, .int 7), (0, .ref 117), (1, .int a1), (2, .int a2), (3, .int a3), (4, .int a4), (5, .int a5)]) (st2 := [.int 0, .int a2, .int 7, .ref 118]) jF_212_101 rfl rfl) ?_
    refine Eq.trans (jr_s (pc2 := 103) (lv2 := [(7, .int a2), (6, .int 7), (0, .ref 117), (1, .int a1), (2, .int a2), (3, .int a3), (4, .int a4), (5, .int a5)]) (st2 := [.int (a2 >>> ((0 : Int32) &&& 31)), .int 7, .ref 118]) jF_212_102 rfl rfl) ?_
    refine Eq.trans (jr_s (pc2 := 106) (lv2 := [(7, .int a2), (6, .int 7), (0, .ref 117), (1, .int a1), (2, .int a2), (3, .int a3), (4, .int a4), (5, .int a5)]) (st2 := [.int 255, .int (a2 >>> ((0 : Int32) &&& 31)), .int 7, .ref 118]) jF_212_103 rfl rfl) ?_
    refine Eq.trans (jr_s (pc2 := 107) (lv2 := [(7, .int a2), (6, .int 7), (0, .ref 117), (1, .int a1), (2, .int a2), (3, .int a3), (4, .int a4), (5, .int a5)]) (st2 := [.int ((a2 >>> ((0 : Int32) &&& 31)) &&& 255), .int 7, .ref 118]) jF_212_106 rfl rfl) ?_
    refine Eq.trans (jr_sti (q := 7) jF_212_107 (rfl) (by decide +kernel)) ?_
    refine Eq.trans (jr_s (pc2 := 109) (lv2 := [(7, .int a2), (6, .int 7), (0, .ref 117), (1, .int a1), (2, .int a2), (3, .int a3), (4, .int a4), (5, .int a5)]) (st2 := [.ref 117]) jF_212_108 rfl rfl) ?_
    refine Eq.trans (jr_s (pc2 := 110) (lv2 := [(7, .int a2), (6, .int 7), (0, .ref 117), (1, .int a1), (2, .int a2), (3, .int a3), (4, .int a4), (5, .int a5)]) (st2 := [.ref 117, .ref 117]) jF_212_109 rfl rfl) ?_
    refine Eq.trans (jr_gf (v := .int 7) jF_212_110 (rfl)) ?_
    refine Eq.trans (jr_s (pc2 := 114) (lv2 := [(7, .int a2), (6, .int 7), (0, .ref 117), (1, .int a1), (2, .int a2), (3, .int a3), (4, .int a4), (5, .int a5)]) (st2 := [.int 1, .int 7, .ref 117]) jF_212_113 rfl rfl) ?_
    refine Eq.trans (jr_s (pc2 := 115) (lv2 := [(7, .int a2), (6, .int 7), (0, .ref 117), (1, .int a1), (2, .int a2), (3, .int a3), (4, .int a4), (5, .int a5)]) (st2 := [.int 8, .ref 117]) jF_212_114 rfl rfl) ?_
    refine Eq.trans (jr_pf jF_212_115 (rfl) rfl) ?_
    refine Eq.trans (jr_s (pc2 := 121) (lv2 := [(6, .int 8), (7, .int a2), (0, .ref 117), (1, .int a1), (2, .int a2), (3, .int a3), (4, .int a4), (5, .int a5)]) (st2 := []) jF_212_118 rfl rfl) ?_
    refine Eq.trans (jr_s (pc2 := 28) (lv2 := [(6, .int 8), (7, .int a2), (0, .ref 117), (1, .int a1), (2, .int a2), (3, .int a3), (4, .int a4), (5, .int a5)]) (st2 := []) jF_212_121 rfl rfl) ?_
    refine Eq.trans (jr_s (pc2 := 30) (lv2 := [(6, .int 8), (7, .int a2), (0, .ref 117), (1, .int a1), (2, .int a2), (3, .int a3), (4, .int a4), (5, .int a5)]) (st2 := [.int 8]) jF_212_28 rfl rfl) ?_
    refine Eq.trans (jr_s (pc2 := 32) (lv2 := [(6, .int 8), (7, .int a2), (0, .ref 117), (1, .int a1), (2, .int a2), (3, .int a3), (4, .int a4), (5, .int a5)]) (st2 := [.int 20, .int 8]) jF_212_30 rfl rfl) ?_
    refine Eq.trans (jr_ic0 jF_212_32 (by decide +kernel)) ?_
    refine Eq.trans (jr_s (pc2 := 37) (lv2 := [(6, .int 8), (7, .int a2), (0, .ref 117), (1, .int a1), (2, .int a2), (3, .int a3), (4, .int a4), (5, .int a5)]) (st2 := [.int 8]) jF_212_35 rfl rfl) ?_
    refine Eq.trans (jr_s (pc2 := 38) (lv2 := [(6, .int 8), (7, .int a2), (0, .ref 117), (1, .int a1), (2, .int a2), (3, .int a3), (4, .int a4), (5, .int a5)]) (st2 := [.int 4, .int 8]) jF_212_37 rfl rfl) ?_
    refine Eq.trans (jr_ic1 jF_212_38 (by decide +kernel)) ?_
    refine Eq.trans (jr_s (pc2 := 47) (lv2 := [(6, .int 8), (7, .int a2), (0, .ref 117), (1, .int a1), (2, .int a2), (3, .int a3), (4, .int a4), (5, .int a5)]) (st2 := [.int 8]) jF_212_45 rfl rfl) ?_
    refine Eq.trans (jr_s (pc2 := 49) (lv2 := [(6, .int 8), (7, .int a2), (0, .ref 117), (1, .int a1), (2, .int a2), (3, .int a3), (4, .int a4), (5, .int a5)]) (st2 := [.int 8, .int 8]) jF_212_47 rfl rfl) ?_
    refine Eq.trans (jr_ic1 jF_212_49 (by decide +kernel)) ?_
    refine Eq.trans (jr_s (pc2 := 58) (lv2 := [(6, .int 8), (7, .int a2), (0, .ref 117), (1, .int a1), (2, .int a2), (3, .int a3), (4, .int a4), (5, .int a5)]) (st2 := [.int 8]) jF_212_56 rfl rfl) ?_
    refine Eq.trans (jr_s (pc2 := 60) (lv2 := [(6, .int 8), (7, .int a2), (0, .ref 117), (1, .int a1), (2, .int a2), (3, .int a3), (4, .int a4), (5, .int a5)]) (st2 := [.int 12, .int 8]) jF_212_58 rfl rfl) ?_
    refine Eq.trans (jr_ic0 jF_212_60 (by decide +kernel)) ?_
    refine Eq.trans (jr_s (pc2 := 64) (lv2 := [(6, .int 8), (7, .int a2), (0, .ref 117), (1, .int a1), (2, .int a2), (3, .int a3), (4, .int a4), (5, .int a5)]) (st2 := [.int a3]) jF_212_63 rfl rfl) ?_
    refine Eq.trans (jr_s (pc2 := 81) (lv2 := [(6, .int 8), (7, .int a2), (0, .ref 117), (1, .int a1), (2, .int a2), (3, .int a3), (4, .int a4), (5, .int a5)]) (st2 := [.int a3]) jF_212_64 rfl rfl) ?_
    refine Eq.trans (jr_s (pc2 := 83) (lv2 := [(7, .int a3), (6, .int 8), (0, .ref 117), (1, .int a1), (2, .int a2), (3, .int a3), (4, .int a4), (5, .int a5)]) (st2 := []) jF_212_81 rfl rfl) ?_
    refine Eq.trans (jr_s (pc2 := 84) (lv2 := [(7, .int a3), (6, .int 8), (0, .ref 117), (1, .int a1), (2, .int a2), (3, .int a3), (4, .int a4), (5, .int a5)]) (st2 := [.ref 117]) jF_212_83 rfl rfl) ?_
    refine Eq.trans (jr_gf (v := .ref 118) jF_212_84 (rfl)) ?_
    refine Eq.trans (jr_s (pc2 := 88) (lv2 := [(7, .int a3), (6, .int 8), (0, .ref 117), (1, .int a1), (2, .int a2), (3, .int a3), (4, .int a4), (5, .int a5)]) (st2 := [.ref 117, .ref 118]) jF_212_87 rfl rfl) ?_
    refine Eq.trans (jr_gf (v := .int 8) jF_212_88 (rfl)) ?_
    refine Eq.trans (jr_s (pc2 := 93) (lv2 := [(7, .int a3), (6, .int 8), (0, .ref 117), (1, .int a1), (2, .int a2), (3, .int a3), (4, .int a4), (5, .int a5)]) (st2 := [.int a3, .int 8, .ref 118]) jF_212_91 rfl rfl) ?_
    refine Eq.trans (jr_s (pc2 := 95) (lv2 := [(7, .int a3), (6, .int 8), (0, .ref 117), (1, .int a1), (2, .int a2), (3, .int a3), (4, .int a4), (5, .int a5)]) (st2 := [.int 8, .int a3, .int 8, .ref 118]) jF_212_93 rfl rfl) ?_
    refine Eq.trans (jr_s (pc2 := 96) (lv2 := [(7, .int a3), (6, .int 8), (0, .ref 117), (1, .int a1), (2, .int a2), (3, .int a3), (4, .int a4), (5, .int a5)]) (st2 := [.int 3, .int 8, .int a3, .int 8, .ref 118]) jF_212_95 rfl rfl) ?_
    refine Eq.trans (jr_s (pc2 := 98) (lv2 := [(7, .int a3), (6, .int 8), (0, .ref 117), (1, .int a1), (2, .int a2), (3, .int a3), (4, .int a4), (5, .int a5)]) (st2 := [.int 8, .int 3, .int 8, .int a3, .int 8, .ref 118]) jF_212_96 rfl rfl) ?_
    refine Eq.trans (jr_s (pc2 := 99) (lv2 := [(7, .int a3), (6, .int 8), (0, .ref 117), (1, .int a1), (2, .int a2), (3, .int a3), (4, .int a4), (5, .int a5)]) (st2 := [.int 4, .int 8, .int 3, .int 8, .int a3, .int 8, .ref 118]) jF_212_98 rfl rfl) ?_
    refine Eq.trans (jr_s (pc2 := 100) (lv2 := [(7, .int a3), (6, .int 8), (0, .ref 117), (1, .int a1), (2, .int a2), (3, .int a3), (4, .int a4), (5, .int a5)]) (st2 := [.int 0, .int 3, .int 8, .int a3, .int 8, .ref 118]) jF_212_99 rfl rfl) ?_
    refine Eq.trans (jr_s (pc2 := 101) (lv2 := [(7, .int a3), (6, .int 8), (0, .ref 117), (1, .int a1), (2, .int a2), (3, .int a3), (4, .int a4), (5, .int a5)]) (st2 := [.int 3, .int 8, .int a3, .int 8, .ref 118]) jF_212_100 rfl rfl) ?_
    refine Eq.trans (jr_s (pc2 := 102) (lv2 := [(7, .int a3), (6, .int 8), (0, .ref 117), (1, .int a1), (2, .int a2), (3, .int a3), (4, .int a4), (5, .int a5)]) (st2 := [.int 24, .int a3, .int 8, .ref 118]) jF_212_101 rfl rfl) ?_
    refine Eq.trans (jr_s (pc2 := 103) (lv2 := [(7, .int a3), (6, .int 8), (0, .ref 117), (1, .int a1), (2, .int a2), (3, .int a3), (4, .int a4), (5, .int a5)]) (st2 := [.int (a3 >>> ((24 : Int32) &&& 31)), .int 8, .ref 118]) jF_212_102 rfl rfl) ?_
    refine Eq.trans (jr_s (pc2 := 106) (lv2 := [(7, .int a3), (6, .int 8), (0, .ref 117), (1, .int a1), (2, .int a2), (3, .int a3), (4, .int a4), (5, .int a5)]) (st2 := [.int 255, .int (a3 >>> ((24 : Int32) &&& 31)), .int 8, .ref 118]) jF_212_103 rfl rfl) ?_
    refine Eq.trans (jr_s (pc2 := 107) (lv2 := [(7, .int a3), (6, .int 8), (0, .ref 117), (1, .int a1), (2, .int a2), (3, .int a3), (4, .int a4), (5, .int a5)]) (st2 := [.int ((a3 >>> ((24 : Int32) &&& 31)) &&& 255), .int 8, .ref 118]) jF_212_106 rfl rfl) ?_
    refine Eq.trans (jr_sti (q := 8) jF_212_107 (rfl) (by decide +kernel)) ?_
    refine Eq.trans (jr_s (pc2 := 109) (lv2 := [(7, .int a3), (6, .int 8), (0, .ref 117), (1, .int a1), (2, .int a2), (3, .int a3), (4, .int a4), (5, .int a5)]) (st2 := [.ref 117]) jF_212_108 rfl rfl) ?_
    refine Eq.trans (jr_s (pc2 := 110) (lv2 := [(7, .int a3), (6, .int 8), (0, .ref 117), (1, .int a1), (2, .int a2), (3, .int a3), (4, .int a4), (5, .int a5)]) (st2 := [.ref 117, .ref 117]) jF_212_109 rfl rfl) ?_
    refine Eq.trans (jr_gf (v := .int 8) jF_212_110 (rfl)) ?_
    refine Eq.trans (jr_s (pc2 := 114) (lv2 := [(7, .int a3), (6, .int 8), (0, .ref 117), (1, .int a1), (2, .int a2), (3, .int a3), (4, .int a4), (5, .int a5)]) (st2 := [.int 1, .int 8, .ref 117]) jF_212_113 rfl rfl) ?_
    refine Eq.trans (jr_s (pc2 := 115) (lv2 := [(7, .int a3), (6, .int 8), (0, .ref 117), (1, .int a1), (2, .int a2), (3, .int a3), (4, .int a4), (5, .int a5)]) (st2 := [.int 9, .ref 117]) jF_212_114 rfl rfl) ?_
    refine Eq.trans (jr_pf jF_212_115 (rfl) rfl) ?_
    refine Eq.trans (jr_s (pc2 := 121) (lv2 := [(6, .int 9), (7, .int a3), (0, .ref 117), (1, .int a1), (2, .int a2), (3, .int a3), (4, .int a4), (5, .int a5)]) (st2 := []) jF_212_118 rfl rfl) ?_
    refine Eq.trans (jr_s (pc2 := 28) (lv2 := [(6, .int 9), (7, .int a3), (0, .ref 117), (1, .int a1), (2, .int a2), (3, .int a3), (4, .int a4), (5, .int a5)]) (st2 := []) jF_212_121 rfl rfl) ?_
    refine Eq.trans (jr_s (pc2 := 30) (lv2 := [(6, .int 9), (7, .int a3), (0, .ref 117), (1, .int a1), (2, .int a2), (3, .int a3), (4, .int a4), (5, .int a5)]) (st2 := [.int 9]) jF_212_28 rfl rfl) ?_
    refine Eq.trans (jr_s (pc2 := 32) (lv2 := [(6, .int 9), (7, .int a3), (0, .ref 117), (1, .int a1), (2, .int a2), (3, .int a3), (4, .int a4), (5, .int a5)]) (st2 := [.int 20, .int 9]) jF_212_30 rfl rfl) ?_
    refine Eq.trans (jr_ic0 jF_212_32 (by decide +kernel)) ?_
    refine Eq.trans (jr_s (pc2 := 37) (lv2 := [(6, .int 9), (7, .int a3), (0, .ref 117), (1, .int a1), (2, .int a2), (3, .int a3), (4, .int a4), (5, .int a5)]) (st2 := [.int 9]) jF_212_35 rfl rfl) ?_
    refine Eq.trans (jr_s (pc2 := 38) (lv2 := [(6, .int 9), (7, .int a3), (0, .ref 117), (1, .int a1), (2, .int a2), (3, .int a3), (4, .int a4), (5, .int a5)]) (st2 := [.int 4, .int 9]) jF_212_37 rfl rfl) ?_
    refine Eq.trans (jr_ic1 jF_212_38 (by decide +kernel)) ?_
    refine Eq.trans (jr_s (pc2 := 47) (lv2 := [(6, .int 9), (7, .int a3), (0, .ref 117), (1, .int a1), (2, .int a2), (3, .int a3), (4, .int a4), (5, .int a5)]) (st2 := [.int 9]) jF_212_45 rfl rfl) ?_
    refine Eq.trans (jr_s (pc2 := 49) (lv2 := [(6, .int 9), (7, .int a3), (0, .ref 117), (1, .int a1), (2, .int a2), (3, .int a3), (4, .int a4), (5, .int a5)]) (st2 := [.int 8, .int 9]) jF_212_47 rfl rfl) ?_
    refine Eq.trans (jr_ic1 jF_212_49 (by decide +kernel)) ?_
    refine Eq.trans (jr_s (pc2 := 58) (lv2 := [(6, .int 9), (7, .int a3), (0, .ref 117), (1, .int a1), (2, .int a2), (3, .int a3), (4, .int a4), (5, .int a5)]) (st2 := [.int 9]) jF_212_56 rfl rfl) ?_
    refine Eq.trans (jr_s (pc2 := 60) (lv2 := [(6, .int 9), (7, .int a3), (0, .ref 117), (1, .int a1), (2, .int a2), (3, .int a3), (4, .int a4), (5, .int a5)]) (st2 := [.int 12, .int 9]) jF_212_58 rfl rfl) ?_
    refine Eq.trans (jr_ic0 jF_212_60 (by decide +kernel)) ?_
    refine Eq.trans (jr_s (pc2 := 64) (lv2 := [(6, .int 9), (7, .int a3), (0, .ref 117), (1, .int a1), (2, .int a2), (3, .int a3), (4, .int a4), (5, .int a5)]) (st2 := [.int a3]) jF_212_63 rfl rfl) ?_
    refine Eq.trans (jr_s (pc2 := 81) (lv2 := [(6, .int 9), (7, .int a3), (0, .ref 117), (1, .int a1), (2, .int a2), (3, .int a3), (4, .int a4), (5, .int a5)]) (st2 := [.int a3]) jF_212_64 rfl rfl) ?_
    refine Eq.trans (jr_s (pc2 := 83) (lv2 := [(7, .int a3), (6, .int 9), (0, .ref 117), (1, .int a1), (2, .int a2), (3, .int a3), (4, .int a4), (5, .int a5)]) (st2 := []) jF_212_81 rfl rfl) ?_
    refine Eq.trans (jr_s (pc2 := 84) (lv2 := [(7, .int a3), (6, .int 9), (0, .ref 117), (1, .int a1), (2, .int a2), (3, .int a3), (4, .int a4), (5, .int a5)]) (st2 := [.ref 117]) jF_212_83 rfl rfl) ?_
    refine Eq.trans (jr_gf (v := .ref 118) jF_212_84 (rfl)) ?_
    refine Eq.trans (jr_s (pc2 := 88) (lv2 := [(7, .int a3), (6, .int 9), (0, .ref 117), (1, .int a1), (2, .int a2), (3, .int a3), (4, .int a4), (5, .int a5)]) (st2 := [.ref 117, .ref 118]) jF_212_87 rfl rfl) ?_
    refine Eq.trans (jr_gf (v := .int 9) jF_212_88 (rfl)) ?_
    refine Eq.trans (jr_s (pc2 := 93) (lv2 := [(7, .int a3), (6, .int 9), (0, .ref 117), (1, .int a1), (2, .int a2), (3, .int a3), (4, .int a4), (5, .int a5)]) (st2 := [.int a3, .int 9, .ref 118]) jF_212_91 rfl rfl) ?_
    refine Eq.trans (jr_s (pc2 := 95) (lv2 := [(7, .int a3), (6, .int 9), (0, .ref 117), (1, .int a1), (2, .int a2), (3, .int a3), (4, .int a4), (5, .int a5)]) (st2 := [.int 8, .int a3, .int 9, .ref 118]) jF_212_93 rfl rfl) ?_
    refine Eq.trans (jr_s (pc2 := 96) (lv2 := [(7, .int a3), (6, .int 9), (0, .ref 117), (1, .int a1), (2, .int a2), (3, .int a3), (4, .int a4), (5, .int a5)]) (st2 := [.int 3, .int 8, .int a3, .int 9, .ref 118]) jF_212_95 rfl rfl) ?_
    refine Eq.trans (jr_s (pc2 := 98) (lv2 := [(7, .int a3), (6, .int 9), (0, .ref 117), (1, .int a1), (2, .int a2), (3, .int a3), (4, .int a4), (5, .int a5)]) (st2 := [.int 9, .int 3, .int 8, .int a3, .int 9, .ref 118]) jF_212_96 rfl rfl) ?_
    refine Eq.trans (jr_s (pc2 := 99) (lv2 := [(7, .int a3), (6, .int 9), (0, .ref 117), (1, .int a1), (2, .int a2), (3, .int a3), (4, .int a4), (5, .int a5)]) (st2 := [.int 4, .int 9, .int 3, .int 8, .int a3, .int 9, .ref 118]) jF_212_98 rfl rfl) ?_
    refine Eq.trans (jr_s (pc2 := 100) (lv2 := [(7, .int a3), (6, .int 9), (0, .ref 117), (1, .int a1), (2, .int a2), (3, .int a3), (4, .int a4), (5, .int a5)]) (st2 := [.int 1, .int 3, .int 8, .int a3, .int 9, .ref 118]) jF_212_99 rfl rfl) ?_
    refine Eq.trans (jr_s (pc2 := 101) (lv2 := [(7, .int a3), (6, .int 9), (0, .ref 117), (1, .int a1), (2, .int a2), (3, .int a3), (4, .int a4), (5, .int a5)]) (st2 := [.int 2, .int 8, .int a3, .int 9, .ref 118]) jF_212_100 rfl rfl) ?_
    refine Eq.trans (jr_s (pc2 := 102) (lv2 := [(7, .int a3), (6, .int 9), (0, .ref 117), (1, .int a1), (2, .int a2), (3, .int a3), (4, .int a4), (5, .int a5)]) (st2 := [.int 16, .int a3, .int 9, .ref 118]) jF_212_101 rfl rfl) ?_
    refine Eq.trans (jr_s (pc2 := 103) (lv2 := [(7, .int a3), (6, .int 9), (0, .ref 117), (1, .int a1), (2, .int a2), (3, .int a3), (4, .int a4), (5, .int a5)]) (st2 := [.int (a3 >>> ((16 : Int32) &&& 31)), .int 9, .ref 118]) jF_212_102 rfl rfl) ?_
    refine Eq.trans (jr_s (pc2 := 106) (lv2 := [(7, .int a3), (6, .int 9), (0, .ref 117), (1, .int a1), (2, .int a2), (3, .int a3), (4, .int a4), (5, .int a5)]) (st2 := [.int 255, .int (a3 >>> ((16 : Int32) &&& 31)), .int 9, .ref 118]) jF_212_103 rfl rfl) ?_
    refine Eq.trans (jr_s (pc2 := 107) (lv2 := [(7, .int a3), (6, .int 9), (0, .ref 117), (1, .int a1), (2, .int a2), (3, .int a3), (4, .int a4), (5, .int a5)]) (st2 := [.int ((a3 >>> ((16 : Int32) &&& 31)) &&& 255), .int 9, .ref 118]) jF_212_106 rfl rfl) ?_
    refine Eq.trans (jr_sti (q := 9) jF_212_107 (rfl) (by decide +kernel)) ?_
    refine Eq.trans (jr_s (pc2 := 109) (lv2 := [(7, .int a3), (6, .int 9), (0, .ref 117), (1, .int a1), (2, .int a2), (3, .int a3), (4, .int a4), (5, .int a5)]) (st2 := [.ref 117]) jF_212_108 rfl rfl) ?_
    refine Eq.trans (jr_s (pc2 := 110) (lv2 := [(7, .int a3), (6, .int 9), (0, .ref 117), (1, .int a1), (2, .int a2), (3, .int a3), (4, .int a4), (5, .int a5)]) (st2 := [.ref 117, .ref 117]) jF_212_109 rfl rfl) ?_
    refine Eq.trans (jr_gf (v := .int 9) jF_212_110 (rfl)) ?_
    refine Eq.trans (jr_s (pc2 := 114) (lv2 := [(7, .int a3), (6, .int 9), (0, .ref 117), (1, .int a1), (2, .int a2), (3, .int a3), (4, .int a4), (5, .int a5)]) (st2 := [.int 1, .int 9, .ref 117]) jF_212_113 rfl rfl) ?_
    refine Eq.trans (jr_s (pc2 := 115) (lv2 := [(7, .int a3), (6, .int 9), (0, .ref 117), (1, .int a1), (2, .int a2), (3, .int a3), (4, .int a4), (5, .int a5)]) (st2 := [.int 10, .ref 117]) jF_212_114 rfl rfl) ?_
    refine Eq.trans (jr_pf jF_212_115 (rfl) rfl) ?_
    refine Eq.trans (jr_s (pc2 := 121) (lv2 := [(6, .int 10), (7, .int a3), (0, .ref 117), (1, .int a1), (2, .int a2), (3, .int a3), (4, .int a4), (5, .int a5)]) (st2 := []) jF_212_118 rfl rfl) ?_
    refine Eq.trans (jr_s (pc2 := 28) (lv2 := [(6, .int 10), (7, .int a3), (0, .ref 117), (1, .int a1), (2, .int a2), (3, .int a3), (4, .int a4), (5, .int a5)]) (st2 := []) jF_212_121 rfl rfl) ?_
    refine Eq.trans (jr_s (pc2 := 30) (lv2 := [(6, .int 10), (7, .int a3), (0, .ref 117), (1, .int a1), (2, .int a2), (3, .int a3), (4, .int a4), (5, .int a5)]) (st2 := [.int 10]) jF_212_28 rfl rfl) ?_
    refine Eq.trans (jr_s (pc2 := 32) (lv2 := [(6, .int 10), (7, .int a3), (0, .ref 117), (1, .int a1), (2, .int a2), (3, .int a3), (4, .int a4), (5, .int a5)]) (st2 := [.int 20, .int 10]) jF_212_30 rfl rfl) ?_
    refine Eq.trans (jr_ic0 jF_212_32 (by decide +kernel)) ?_
    refine Eq.trans (jr_s (pc2 := 37) (lv2 := [(6, .int 10), (7, .int a3), (0, .ref 117), (1, .int a1), (2, .int a2), (3, .int a3), (4, .int a4), (5, .int a5)]) (st2 := [.int 10]) jF_212_35 rfl rfl) ?_
    refine Eq.trans (jr_s (pc2 := 38) (lv2 := [(6, .int 10), (7, .int a3), (0, .ref 117), (1, .int a1), (2, .int a2), (3, .int a3), (4, .int a4), (5, .int a5)]) (st2 := [.int 4, .int 10]) jF_212_37 rfl rfl) ?_
    refine Eq.trans (jr_ic1 jF_212_38 (by decide +kernel)) ?_
    refine Eq.trans (jr_s (pc2 := 47) (lv2 := [(6, .int 10), (7, .int a3), (0, .ref 117), (1, .int a1), (2, .int a2), (3, .int a3), (4, .int a4), (5, .int a5)]) (st2 := [.int 10]) jF_212_45 rfl rfl) ?_
    refine Eq.trans (jr_s (pc2 := 49) (lv2 := [(6, .int 10), (7, .int a3), (0, .ref 117), (1, .int a1), (2, .int a2), (3, .int a3), (4, .int a4), (5, .int a5)]) (st2 := [.int 8, .int 10]) jF_212_47 rfl rfl) ?_
    refine Eq.trans (jr_ic1 jF_212_49 (by decide +kernel)) ?_
    refine Eq.trans (jr_s (pc2 := 58) (lv2 := [(6, .int 10), (7, .int a3), (0, .ref 117), (1, .int a1), (2, .int a2), (3, .int a3), (4, .int a4), (5, .int a5)]) (st2 := [.int 10]) jF_212_56 rfl rfl) ?_
    refine Eq.trans (jr_s (pc2 := 60) (lv2 := [(6, .int 10), (7, .int a3), (0, .ref 117), (1, .int a1), (2, .int a2), (3, .int a3), (4, .int a4), (5, .int a5)]) (st2 := [.int 12, .int 10]) jF_212_58 rfl rfl) ?_
    refine Eq.trans (jr_ic0 jF_212_60 (by decide +kernel)) ?_
    refine Eq.trans (jr_s (pc2 := 64) (lv2 := [(6, .int 10), (7, .int a3), (0, .ref 117), (1, .int a1), (2, .int a2), (3, .int a3), (4, .int a4), (5, .int a5)]) (st2 := [.int a3]) jF_212_63 rfl rfl) ?_
    refine Eq.trans (jr_s (pc2 := 81) (lv2 := [(6, .int 10), (7, .int a3), (0, .ref 117), (1, .int a1), (2, .int a2), (3, .int a3), (4, .int a4), (5, .int a5)]) (st2 := [.int a3]) jF_212_64 rfl rfl) ?_
    refine Eq.trans (jr_s (pc2 := 83) (lv2 := [(7, .int a3), (6, .int 10), (0, .ref 117), (1, .int a1), (2, .int a2), (3, .int a3), (4, .int a4), (5, .int a5)]) (st2 := []) jF_212_81 rfl rfl) ?_
    refine Eq.trans (jr_s (pc2 := 84) (lv2 := [(7, .int a3), (6, .int 10), (0, .ref 117), (1, .int a1), (2, .int a2), (3, .int a3), (4, .int a4), (5, .int a5)]) (st2 := [.ref 117]) jF_212_83 rfl rfl) ?_
    refine Eq.trans (jr_gf (v := .ref 118) jF_212_84 (rfl)) ?_
    refine Eq.trans (jr_s (pc2 := 88) (lv2 := [(7, .int a3), (6, .int 10), (0, .ref 117), (1, .int a1), (2, .int a2), (3, .int a3), (4, .int a4), (5, .int a5)]) (st2 := [.ref 117, .ref 118]) jF_212_87 rfl rfl) ?_
    refine Eq.trans (jr_gf (v := .int 10) jF_212_88 (rfl)) ?_
    refine Eq.trans (jr_s (pc2 := 93) (lv2 := [(7, .int a3), (6, .int 10), (0, .ref 117), (1, .int a1), (2, .int a2), (3, .int a3), (4, .int a4), (5, .int a5)]) (st2 := [.int a3, .int 10, .ref 118]) jF_212_91 rfl rfl) ?_
    refine Eq.trans (jr_s (pc2 := 95) (lv2 := [(7, .int a3), (6, .int 10), (0, .ref 117), (1, .int a1), (2, .int a2), (3, .int a3), (4, .int a4), (5, .int a5)]) (st2 := [.int 8, .int a3, .int 10, .ref 118]) jF_212_93 rfl rfl) ?_
    refine Eq.trans (jr_s (pc2 := 96) (lv2 := [(7, .int a3), (6, .int 10), (0, .ref 117), (1, .int a1), (2, .int a2), (3, .int a3), (4, .int a4), (5, .int a5)]) (st2 := [.int 3, .int 8, .int a3, .int 10, .ref 118]) jF_212_95 rfl rfl) ?_
    refine Eq.trans (jr_s (pc2 := 98) (lv2 := [(7, .int a3), (6, .int 10), (0, .ref 117), (1, .int a1), (2, .int a2), (3, .int a3), (4, .int a4), (5, .int a5)]) (st2 := [.int 10, .int 3, .int 8, .int a3, .int 10, .ref 118]) jF_212_96 rfl rfl) ?_
    refine Eq.trans (jr_s (pc2 := 99) (lv2 := [(7, .int a3), (6, .int 10), (0, .ref 117), (1, .int a1), (2, .int a2), (3, .int a3), (4, .int a4), (5, .int a5)]) (st2 := [.int 4, .int 10, .int 3, .int 8, .int a3, .int 10, .ref 118]) jF_212_98 rfl rfl) ?_
    refine Eq.trans (jr_s (pc2 := 100) (lv2 := [(7, .int a3), (6, .int 10), (0, .ref 117), (1, .int a1), (2, .int a2), (3, .int a3), (4, .int a4), (5, .int a5)]) (st2 := [.int 2, .int 3, .int 8, .int a3, .int 10, .ref 118]) jF_212_99 rfl rfl) ?_
    refine Eq.trans (jr_s (pc2 := 101) (lv2 := [(7, .int a3), (6, .int 10), (0, .ref 117), (1, .int a1), (2, .int a2), (3, .int a3), (4, .int a4), (5, .int a5)]) (st2 := [.int 1, .int 8, .int a3, .int 10, .ref 118]) jF_212_100 rfl rfl) ?_
    refine Eq.trans (jr_s (pc2 := 102) (lv2 := [(7, .int a3), (6, .int 10), (0, .ref 117), (1, .int a1), (2, .int a2), (3, .int a3), (4, .int a4), (5, .int a5)]) (st2 := [.int 8, .int a3, .int 10, .ref 118]) jF_212_101 rfl rfl) ?_
    refine Eq.trans (jr_s (pc2 := 103) (lv2 := [(7, .int a3), (6, .int 10), (0, .ref 117), (1, .int a1), (2, .int a2), (3, .int a3), (4, .int a4), (5, .int a5)]) (st2 := [.int (a3 >>> ((8 : Int32) &&& 31)), .int 10, .ref 118]) jF_212_102 rfl rfl) ?_
    refine Eq.trans (jr_s (pc2 := 106) (lv2 := [(7, .int a3), (6, .int 10), (0, .ref 117), (1, .int a1), (2, .int a2), (3, .int a3), (4, .int a4), (5, .int a5)]) (st2 := [.int 255, .int (a3 >>> ((8 : Int32) &&& 31)), .int 10, .ref 118]) jF_212_103 rfl rfl) ?_
    refine Eq.trans (jr_s (pc2 := 107) (lv2 := [(7, .int a3), (6, .int 10), (0, .ref 117), (1, .int a1), (2, .int a2), (3, .int a3), (4, .int a4), (5, .int a5)]) (st2 := [.int ((a3 >>> ((8 : Int32) &&& 31)) &&& 255), .int 10, .ref 118]) jF_212_106 rfl rfl) ?_
    refine Eq.trans (jr_sti (q := 10) jF_212_107 (rfl) (by decide +kernel)) ?_
    refine Eq.trans (jr_s (pc2 := 109) (lv2 := [(7, .int a3), (6, .int 10), (0, .ref 117), (1, .int a1), (2, .int a2), (3, .int a3), (4, .int a4), (5, .int a5)]) (st2 := [.ref 117]) jF_212_108 rfl rfl) ?_
    refine Eq.trans (jr_s (pc2 := 110) (lv2 := [(7, .int a3), (6, .int 10), (0, .ref 117), (1, .int a1), (2, .int a2), (3, .int a3), (4, .int a4), (5, .int a5)]) (st2 := [.ref 117, .ref 117]) jF_212_109 rfl rfl) ?_
    refine Eq.trans (jr_gf (v := .int 10) jF_212_110 (rfl)) ?_
    refine Eq.trans (jr_s (pc2 := 114) (lv2 := [(7, .int a3), (6, .int 10), (0, .ref 117), (1, .int a1), (2, .int a2), (3, .int a3), (4, .int a4), (5, .int a5)]) (st2 := [.int 1, .int 10, .ref 117]) jF_212_113 rfl rfl) ?_
    refine Eq.trans (jr_s (pc2 := 115) (lv2 := [(7, .int a3), (6, .int 10), (0, .ref 117), (1, .int a1), (2, .int a2), (3, .int a3), (4, .int a4), (5, .int a5)]) (st2 := [.int 11, .ref 117]) jF_212_114 rfl rfl) ?_
    refine Eq.trans (jr_pf jF_212_115 (rfl) rfl) ?_
    refine Eq.trans (jr_s (pc2 := 121) (lv2 := [(6, .int 11), (7, .int a3), (0, .ref 117), (1, .int a1), (2, .int a2), (3, .int a3), (4, .int a4), (5, .int a5)]) (st2 := []) jF_212_118 rfl rfl) ?_
    refine Eq.trans (jr_s (pc2 := 28) (lv2 := [(6, .int 11), (7, .int a3), (0, .ref 117), (1, .int a1), (2, .int a2), (3, .int a3), (4, .int a4), (5, .int a5)]) (st2 := []) jF_212_121 rfl rfl) ?_
    refine Eq.trans (jr_s (pc2 := 30) (lv2 := [(6, .int 11), (7, .int a3), (0, .ref 117), (1, .int a1), (2, .int a2), (3, .int a3), (4, .int a4), (5, .int a5)]) (st2 := [.int 11]) jF_212_28 rfl rfl) ?_
    refine Eq.trans (jr_s (pc2 := 32) (lv2 := [(6, .int 11), (7, .int a3), (0, .ref 117), (1, .int a1), (2, .int a2), (3, .int a3), (4, .int a4), (5, .int a5)]) (st2 := [.int 20, .int 11]) jF_212_30 rfl rfl) ?_
    refine Eq.trans (jr_ic0 jF_212_32 (by decide +kernel)) ?_
    refine Eq.trans (jr_s (pc2 := 37) (lv2 := [(6, .int 11), (7, .int a3), (0, .ref 117), (1, .int a1), (2, .int a2), (3, .int a3), (4, .int a4), (5, .int a5)]) (st2 := [.int 11]) jF_212_35 rfl rfl) ?_
    refine Eq.trans (jr_s (pc2 := 38) (lv2 := [(6, .int 11), (7, .int a3), (0, .ref 117), (1, .int a1), (2, .int a2), (3, .int a3), (4, .int a4), (5, .int a5)]) (st2 := [.int 4, .int 11]) jF_212_37 rfl rfl) ?_
    refine Eq.trans (jr_ic1 jF_212_38 (by decide +kernel)) ?_
    refine Eq.trans (jr_s (pc2 := 47) (lv2 := [(6, .int 11), (7, .int a3), (0, .ref 117), (1, .int a1), (2, .int a2), (3, .int a3), (4, .int a4), (5, .int a5)]) (st2 := [.int 11]) jF_212_45 rfl rfl) ?_
    refine Eq.trans (jr_s (pc2 := 49) (lv2 := [(6, .int 11), (7, .int a3), (0, .ref 117), (1, .int a1), (2, .int a2), (3, .int a3), (4, .int a4), (5, .int a5)]) (st2 := [.int 8, .int 11]) jF_212_47 rfl rfl) ?_
    refine Eq.trans (jr_ic1 jF_212_49 (by decide +kernel)) ?_
    refine Eq.trans (jr_s (pc2 := 58) (lv2 := [(6, .int 11), (7, .int a3), (0, .ref 117), (1, .int a1), (2, .int a2), (3, .int a3), (4, .int a4), (5, .int a5)]) (st2 := [.int 11]) jF_212_56 rfl rfl) ?_
    refine Eq.trans (jr_s (pc2 := 60) (lv2 := [(6, .int 11), (7, .int a3), (0, .ref 117), (1, .int a1), (2, .int a2), (3, .int a3), (4, .int a4), (5, .int a5)]) (st2 := [.int 12, .int 11]) jF_212_58 rfl rfl) ?_
    refine Eq.trans (jr_ic0 jF_212_60 (by decide +kernel)) ?_
    refine Eq.trans (jr_s (pc2 := 64) (lv2 := [(6, .int 11), (7, .int a3), (0, .ref 117), (1, .int a1), (2, .int a2), (3, .int a3), (4, .int a4), (5, .int a5)]) (st2 := [.int a3]) jF_212_63 rfl rfl) ?_
    refine Eq.trans (jr_s (pc2 := 81) (lv2 := [(6, .int 11), (7, .int a3), (0, .ref 117), (1, .int a1), (2, .int a2), (3, .int a3), (4, .int a4), (5, .int a5)]) (st2 := [.int a3]) jF_212_64 rfl rfl) ?_
    refine Eq.trans (jr_s (pc2 := 83) (lv2 := [(7, .int a3), (6, .int 11), (0, .ref 117), (1, .int a1), (2, .int a2), (3, .int a3), (4, .int a4), (5, .int a5)]) (st2 := []) jF_212_81 rfl rfl) ?_
    refine Eq.trans (jr_s (pc2 := 84) (lv2 := [(7, .int a3), (6, .int 11), (0, .ref 117), (1, .int a1), (2, .int a2), (3, .int a3), (4, .int a4), (5, .int a5)]) (st2 := [.ref 117]) jF_212_83 rfl rfl) ?_
    refine Eq.trans (jr_gf (v := .ref 118) jF_212_84 (rfl)) ?_
    refine Eq.trans (jr_s (pc2 := 88) (lv2 := [(7, .int a3), (6, .int 11), (0, .ref 117), (1, .int a1), (2, .int a2), (3, .int a3), (4, .int a4), (5, .int a5)]) (st2 := [.ref 117, .ref 118]) jF_212_87 rfl rfl) ?_
    refine Eq.trans (jr_gf (v := .int 11) jF_212_88 (rfl)) ?_
    refine Eq.trans (jr_s (pc2 := 93) (lv2 := [(7, .int a3), (6, .int 11), (0, .ref 117), (1, .int a1), (2, .int a2), (3, .int a3), (4, .int a4), (5, .int a5)]) (st2 := [.int a3, .int 11, .ref 118]) jF_212_91 rfl rfl) ?_
    refine Eq.trans (jr_s (pc2 := 95) (lv2 := [(7, .int a3), (6, .int 11), (0, .ref 117), (1, .int a1), (2, .int a2), (3, .int a3), (4, .int a4), (5, .int a5)]) (st2 := [.int 8, .int a3, .int 11, .ref 118]) jF_212_93 rfl rfl) ?_
    refine Eq.trans (jr_s (pc2 := 96) (lv2 := [(7, .int a3), (6, .int 11), (0, .ref 117), (1, .int a1), (2, .int a2), (3, .int a3), (4, .int a4), (5, .int a5)]) (st2 := [.int 3, .int 8, .int a3, .int 11, .ref 118]) jF_212_95 rfl rfl) ?_
    refine Eq.trans (jr_s (pc2 := 98) (lv2 := [(7, .int a3), (6, .int 11), (0, .ref 117), (1, .int a1), (2, .int a2), (3, .int a3), (4, .int a4), (5, .int a5)]) (st2 := [.int 11, .int 3, .int 8, .int a3, .int 11, .ref 118]) jF_212_96 rfl rfl) ?_
    refine Eq.trans (jr_s (pc2 := 99) (lv2 := [(7, .int a3), (6, .int 11), (0, .ref 117), (1, .int a1), (2, .int a2), (3, .int a3), (4, .int a4), (5, .int a5)]) (st2 := [.int 4, .int 11, .int 3, .int 8, .int a3, .int 11, .ref 118]) jF_212_98 rfl rfl) ?_
    refine Eq.trans (jr_s (pc2 := 100) (lv2 := [(7, .int a3), (6, .int 11), (0, .ref 117), (1, .int a1), (2, .int a2), (3, .int a3), (4, .int a4), (5, .int a5)]) (st2 := [.int 3, .int 3, .int 8, .int a3, .int 11, .ref 118]) jF_212_99 rfl rfl) ?_
    refine Eq.trans (jr_s (pc2 := 101) (lv2 := [(7, .int a3), (6, .int 11), (0, .ref 117), (1, .int a1), (2, .int a2), (3, .int a3), (4, .int a4), (5, .int a5)]) (st2 := [.int 0, .int 8, .int a3, .int 11, .ref 118]) jF_212_100 rfl rfl) ?_
    refine Eq.trans (jr_s (pc2 := 102) (lv2 := [(7, .int a3), (6, .int 11), (0, .ref 117), (1, .int a1), (2, .int a2), (3, .int a3), (4, .int a4), (5, .int a5)]) (st2 := [.int 0, .int a3, .int 11, .ref 118]) jF_212_101 rfl rfl) ?_
    refine Eq.trans (jr_s (pc2 := 103) (lv2 := [(7, .int a3), (6, .int 11), (0, .ref 117), (1, .int a1), (2, .int a2), (3, .int a3), (4, .int a4), (5, .int a5)]) (st2 := [.int (a3 >>> ((0 : Int32) &&& 31)), .int 11, .ref 118]) jF_212_102 rfl rfl) ?_
    refine Eq.trans (jr_s (pc2 := 106) (lv2 := [(7, .int a3), (6, .int 11), (0, .ref 117), (1, .int a1), (2, .int a2), (3, .int a3), (4, .int a4), (5, .int a5)]) (st2 := [.int 255, .int (a3 >>> ((0 : Int32) &&& 31)), .int 11, .ref 118]) jF_212_103 rfl rfl) ?_
    refine Eq.trans (jr_s (pc2 := 107) (lv2 := [(7, .int a3), (6, .int 11), (0, .ref 117), (1, .int a1), (2, .int a2), (3, .int a3), (4, .int a4), (5, .int a5)]) (st2 := [.int ((a3 >>> ((0 : Int32) &&& 31)) &&& 255), .int 11, .ref 118]) jF_212_106 rfl rfl) ?_
    refine Eq.trans (jr_sti (q := 11) jF_212_107 (rfl) (by decide +kernel)) ?_
    refine Eq.trans (jr_s (pc2 := 109) (lv2 := [(7, .int a3), (6, .int 11), (0, .ref 117), (1, .int a1), (2, .int a2), (3, .int a3), (4, .int a4), (5, .int a5)]) (st2 := [.ref 117]) jF_212_108 rfl rfl) ?_
    refine Eq.trans (jr_s (pc2 := 110) (lv2 := [(7, .int a3), (6, .int 11), (0, .ref 117), (1, .int a1), (2, .int a2), (3, .int a3), (4, .int a4), (5, .int a5)]) (st2 := [.ref 117, .ref 117]) jF_212_109 rfl rfl) ?_
    refine Eq.trans (jr_gf (v := .int 11) jF_212_110 (rfl)) ?_
    refine Eq.trans (jr_s (pc2 := 114) (lv2 := [(7, .int a3), (6, .int 11), (0, .ref 117), (1, .int a1), (2, .int a2), (3, .int a3), (4, .int a4), (5, .int a5)]) (st2 := [.int 1, .int 11, .ref 117]) jF_212_113 rfl rfl) ?_
    refine Eq.trans (jr_s (pc2 := 115) (lv2 := [(7, .int a3), (6, .int 11), (0, .ref 117), (1, .int a1), (2, .int a2), (3, .int a3), (4, .int a4), (5, .int a5)]) (st2 := [.int 12, .ref 117]) jF_212_114 rfl rfl) ?_
    refine Eq.trans (jr_pf jF_212_115 (rfl) rfl) ?_
    refine Eq.trans (jr_s (pc2 := 121) (lv2 := [(6, .int 12), (7, .int a3), (0, .ref 117), (1, .int a1), (2, .int a2), (3, .int a3), (4, .int a4), (5, .int a5)]) (st2 := []) jF_212_118 rfl rfl) ?_
    refine Eq.trans (jr_s (pc2 := 28) (lv2 := [(6, .int 12), (7, .int a3), (0, .ref 117), (1, .int a1), (2, .int a2), (3, .int a3), (4, .int a4), (5, .int a5)]) (st2 := []) jF_212_121 rfl rfl) ?_
    refine Eq.trans (jr_s (pc2 := 30) (lv2 := [(6, .int 12), (7, .int a3), (0, .ref 117), (1, .int a1), (2, .int a2), (3, .int a3), (4, .int a4), (5, .int a5)]) (st2 := [.int 12]) jF_212_28 rfl rfl) ?_
    refine Eq.trans (jr_s (pc2 := 32) (lv2 := [(6, .int 12), (7, .int a3), (0, .ref 117), (1, .int a1), (2, .int a2), (3, .int a3), (4, .int a4), (5, .int a5)]) (st2 := [.int 20, .int 12]) jF_212_30 rfl rfl) ?_
    refine Eq.trans (jr_ic0 jF_212_32 (by decide +kernel)) ?_
    refine Eq.trans (jr_s (pc2 := 37) (lv2 := [(6, .int 12), (7, .int a3), (0, .ref 117), (1, .int a1), (2, .int a2), (3, .int a3), (4, .int a4), (5, .int a5)]) (st2 := [.int 12]) jF_212_35 rfl rfl) ?_
    refine Eq.trans (jr_s (pc2 := 38) (lv2 := [(6, .int 12), (7, .int a3), (0, .ref 117), (1, .int a1), (2, .int a2), (3, .int a3), (4, .int a4), (5, .int a5)]) (st2 := [.int 4, .int 12]) jF_212_37 rfl rfl) ?_
    refine Eq.trans (jr_ic1 jF_212_38 (by decide +kernel)) ?_
    refine Eq.trans (jr_s (pc2 := 47) (lv2 := [(6, .int 12), (7, .int a3), (0, .ref 117), (1, .int a1), (2, .int a2), (3, .int a3), (4, .int a4), (5, .int a5)]) (st2 := [.int 12]) jF_212_45 rfl rfl) ?_
    refine Eq.trans (jr_s (pc2 := 49) (lv2 := [(6, .int 12), (7, .int a3), (0, .ref 117), (1, .int a1), (2, .int a2), (3, .int a3), (4, .int a4), (5, .int a5)]) (st2 := [.int 8, .int 12]) jF_212_47 rfl rfl) ?_
    refine Eq.trans (jr_ic1 jF_212_49 (by decide +kernel)) ?_
    refine Eq.trans (jr_s (pc2 := 58) (lv2 := [(6, .int 12), (7, .int a3), (0, .ref 117), (1, .int a1), (2, .int a2), (3, .int a3), (4, .int a4), (5, .int a5)]) (st2 := [.int 12]) jF_212_56 rfl rfl) ?_
    refine Eq.trans (jr_s (pc2 := 60) (lv2 := [(6, .int 12), (7, .int a3), (0, .ref 117), (1, .int a1), (2, .int a2), (3, .int a3), (4, .int a4), (5, .int a5)]) (st2 := [.int 12, .int 12]) jF_212_58 rfl rfl) ?_
    refine Eq.trans (jr_ic1 jF_212_60 (by decide +kernel)) ?_
    refine Eq.trans (jr_s (pc2 := 69) (lv2 := [(6, .int 12), (7, .int a3), (0, .ref 117), (1, .int a1), (2, .int a2), (3, .int a3), (4, .int a4), (5, .int a5)]) (st2 := [.int 12]) jF_212_67 rfl rfl) ?_
    refine Eq.trans (jr_s (pc2 := 71) (lv2 := [(6, .int 12), (7, .int a3), (0, .ref 117), (1, .int a1), (2, .int a2), (3, .int a3), (4, .int a4), (5, .int a5)]) (st2 := [.int 16, .int 12]) jF_212_69 rfl rfl) ?_
    refine Eq.trans (jr_ic0 jF_212_71 (by decide +kernel)) ?_
    refine Eq.trans (jr_s (pc2 := 76) (lv2 := [(6, .int 12), (7, .int a3), (0, .ref 117), (1, .int a1), (2, .int a2), (3, .int a3), (4, .int a4), (5, .int a5)]) (st2 := [.int a4]) jF_212_74 rfl rfl) ?_
    refine Eq.trans (jr_s (pc2 := 81) (lv2 := [(6, .int 12), (7, .int a3), (0, .ref 117), (1, .int a1), (2, .int a2), (3, .int a3), (4, .int a4), (5, .int a5)]) (st2 := [.int a4]) jF_212_76 rfl rfl) ?_
    refine Eq.trans (jr_s (pc2 := 83) (lv2 := [(7, .int a4), (6, .int 12), (0, .ref 117), (1, .int a1), (2, .int a2), (3, .int a3), (4, .int a4), (5, .int a5)]) (st2 := []) jF_212_81 rfl rfl) ?_
    refine Eq.trans (jr_s (pc2 := 84) (lv2 := [(7, .int a4), (6, .int 12), (0, .ref 117), (1, .int a1), (2, .int a2), (3, .int a3), (4, .int a4), (5, .int a5)]) (st2 := [.ref 117]) jF_212_83 rfl rfl) ?_
    refine Eq.trans (jr_gf (v := .ref 118) jF_212_84 (rfl)) ?_
    refine Eq.trans (jr_s (pc2 := 88) (lv2 := [(7, .int a4), (6, .int 12), (0, .ref 117), (1, .int a1), (2, .int a2), (3, .int a3), (4, .int a4), (5, .int a5)]) (st2 := [.ref 117, .ref 118]) jF_212_87 rfl rfl) ?_
    refine Eq.trans (jr_gf (v := .int 12) jF_212_88 (rfl)) ?_
    refine Eq.trans (jr_s (pc2 := 93) (lv2 := [(7, .int a4), (6, .int 12), (0, .ref 117), (1, .int a1), (2, .int a2), (3, .int a3), (4, .int a4), (5, .int a5)]) (st2 := [.int a4, .int 12, .ref 118]) jF_212_91 rfl rfl) ?_
    refine Eq.trans (jr_s (pc2 := 95) (lv2 := [(7, .int a4), (6, .int 12), (0, .ref 117), (1, .int a1), (2, .int a2), (3, .int a3), (4, .int a4), (5, .int a5)]) (st2 := [.int 8, .int a4, .int 12, .ref 118]) jF_212_93 rfl rfl) ?_
    refine Eq.trans (jr_s (pc2 := 96) (lv2 := [(7, .int a4), (6, .int 12), (0, .ref 117), (1, .int a1), (2, .int a2), (3, .int a3), (4, .int a4), (5, .int a5)]) (st2 := [.int 3, .int 8, .int a4, .int 12, .ref 118]) jF_212_95 rfl rfl) ?_
    refine Eq.trans (jr_s (pc2 := 98) (lv2 := [(7, .int a4), (6, .int 12), (0, .ref 117), (1, .int a1), (2, .int a2), (3, .int a3), (4, .int a4), (5, .int a5)]) (st2 := [.int 12, .int 3, .int 8, .int a4, .int 12, .ref 118]) jF_212_96 rfl rfl) ?_
    refine Eq.trans (jr_s (pc2 := 99) (lv2 := [(7, .int a4), (6, .int 12), (0, .ref 117), (1, .int a1), (2, .int a2), (3, .int a3), (4, .int a4), (5, .int a5)]) (st2 := [.int 4, .int 12, .int 3, .int 8, .int a4, .int 12, .ref 118]) jF_212_98 rfl rfl) ?_
    refine Eq.trans (jr_s (pc2 := 100) (lv2 := [(7, .int a4), (6, .int 12), (0, .ref 117), (1, .int a1), (2, .int a2), (3, .int a3), (4, .int a4), (5, .int a5)]) (st2 := [.int 0, .int 3, .int 8, .int a4, .int 12, .ref 118]) jF_212_99 rfl rfl) ?_
    refine Eq.trans (jr_s (pc2 := 101) (lv2 := [(7, .int a4), (6, .int 12), (0, .ref 117), (1, .int a1), (2, .int a2), (3, .int a3), (4, .int a4), (5, .int a5)]) (st2 := [.int 3, .int 8, .int a4, .int 12, .ref 118]) jF_212_100 rfl rfl) ?_
    refine Eq.trans (jr_s (pc2 := 102) (lv2 := [(7, .int a4), (6, .int 12), (0, .ref 117), (1, .int a1), (2, .int a2), (3, .int a3), (4, .int a4), (5, .int a5)]) (st2 := [.int 24, .int a4, .int 12, .ref 118]) jF_212_101 rfl rfl) ?_
    refine Eq.trans (jr_s (pc2 := 103) (lv2 := [(7, .int a4), (6, .int 12), (0, .ref 117), (1, .int a1), (2, .int a2), (3, .int a3), (4, .int a4), (5, .int a5)]) (st2 := [.int (a4 >>> ((24 : Int32) &&& 31)), .int 12, .ref 118]) jF_212_102 rfl rfl) ?_
    refine Eq.trans (jr_s (pc2 := 106) (lv2 := [(7, .int a4), (6, .int 12), (0, .ref 117), (1, .int a1), (2, .int a2), (3, .int a3), (4, .int a4), (5, .int a5)]) (st2 := [.int 255, .int (a4 >>> ((24 : Int32) &&& 31)), .int 12, .ref 118]) jF_212_103 rfl rfl) ?_
    refine Eq.trans (jr_s (pc2 := 107) (lv2 := [(7, .int a4), (6, .int 12), (0, .ref 117), (1, .int a1), (2, .int a2), (3, .int a3), (4, .int a4), (5, .int a5)]) (st2 := [.int ((a4 >>> ((24 : Int32) &&& 31)) &&& 255), .int 12, .ref 118]) jF_212_106 rfl rfl) ?_
    refine Eq.trans (jr_sti (q := 12) jF_212_107 (rfl) (by decide +kernel)) ?_
    refine Eq.trans (jr_s (pc2 := 109) (lv2 := [(7, .int a4), (6, .int 12), (0, .ref 117), (1, .int a1), (2, .int a2), (3, .int a3), (4, .int a4), (5, .int a5)]) (st2 := [.ref 117]) jF_212_108 rfl rfl) ?_
    refine Eq.trans (jr_s (pc2 := 110) (lv2 := [(7, .int a4), (6, .int 12), (0, .ref 117), (1, .int a1), (2, .int a2), (3, .int a3), (4, .int a4), (5, .int a5)]) (st2 := [.ref 117, .ref 117]) jF_212_109 rfl rfl) ?_
    refine Eq.trans (jr_gf (v := .int 12) jF_212_110 (rfl)) ?_
    refine Eq.trans (jr_s (pc2 := 114) (lv2 := [(7, .int a4), (6, .int 12), (0, .ref 117), (1, .int a1), (2, .int a2), (3, .int a3), (4, .int a4), (5, .int a5)]) (st2 := [.int 1, .int 12, .ref 117]) jF_212_113 rfl rfl) ?_
    refine Eq.trans (jr_s (pc2 := 115) (lv2 := [(7, .int a4), (6, .int 12), (0, .ref 117), (1, .int a1), (2, .int a2), (3, .int a3), (4, .int a4), (5, .int a5)]) (st2 := [.int 13, .ref 117]) jF_212_114 rfl rfl) ?_
    refine Eq.trans (jr_pf jF_212_115 (rfl) rfl) ?_
    refine Eq.trans (jr_s (pc2 := 121) (lv2 := [(6, .int 13), (7, .int a4), (0, .ref 117), (1, .int a1), (2, .int a2), (3, .int a3), (4, .int a4), (5, .int a5)]) (st2 := []) jF_212_118 rfl rfl) ?_
    refine Eq.trans (jr_s (pc2 := 28) (lv2 := [(6, .int 13), (7, .int a4), (0, .ref 117), (1, .int a1), (2, .int a2), (3, .int a3), (4, .int a4), (5, .int a5)]) (st2 := []) jF_212_121 rfl rfl) ?_
    refine Eq.trans (jr_s (pc2 := 30) (lv2 := [(6, .int 13), (7, .int a4), (0, .ref 117), (1, .int a1), (2, .int a2), (3, .int a3), (4, .int a4), (5, .int a5)]) (st2 := [.int 13]) jF_212_28 rfl rfl) ?_
    refine Eq.trans (jr_s (pc2 := 32) (lv2 := [(6, .int 13), (7, .int a4), (0, .ref 117), (1, .int a1), (2, .int a2), (3, .int a3), (4, .int a4), (5, .int a5)]) (st2 := [.int 20, .int 13]) jF_212_30 rfl rfl) ?_
    refine Eq.trans (jr_ic0 jF_212_32 (by decide +kernel)) ?_
    refine Eq.trans (jr_s (pc2 := 37) (lv2 := [(6, .int 13), (7, .int a4), (0, .ref 117), (1, .int a1), (2, .int a2), (3, .int a3), (4, .int a4), (5, .int a5)]) (st2 := [.int 13]) jF_212_35 rfl rfl) ?_
    refine Eq.trans (jr_s (pc2 := 38) (lv2 := [(6, .int 13), (7, .int a4), (0, .ref 117), (1, .int a1), (2, .int a2), (3, .int a3), (4, .int a4), (5, .int a5)]) (st2 := [.int 4, .int 13]) jF_212_37 rfl rfl) ?_
    refine Eq.trans (jr_ic1 jF_212_38 (by decide +kernel)) ?_
    refine Eq.trans (jr_s (pc2 := 47) (lv2 := [(6, .int 13), (7, .int a4), (0, .ref 117), (1, .int a1), (2, .int a2), (3, .int a3), (4, .int a4), (5, .int a5)]) (st2 := [.int 13]) jF_212_45 rfl rfl) ?_
    refine Eq.trans (jr_s (pc2 := 49) (lv2 := [(6, .int 13), (7, .int a4), (0, .ref 117), (1, .int a1), (2, .int a2), (3, .int a3), (4, .int a4), (5, .int a5)]) (st2 := [.int 8, .int 13]) jF_212_47 rfl rfl) ?_
    refine Eq.trans (jr_ic1 jF_212_49 (by decide +kernel)) ?_
    refine Eq.trans (jr_s (pc2 := 58) (lv2 := [(6, .int 13), (7, .int a4), (0, .ref 117), (1, .int a1), (2, .int a2), (3, .int a3), (4, .int a4), (5, .int a5)]) (st2 := [.int 13]) jF_212_56 rfl rfl) ?_
    refine Eq.trans (jr_s (pc2 := 60) (lv2 := [(6, .int 13), (7, .int a4), (0, .ref 117), (1, .int a1), (2, .int a2), (3, .int a3), (4, .int a4), (5, .int a5)]) (st2 := [.int 12, .int 13]) jF_212_58 rfl rfl) ?_
    refine Eq.trans (jr_ic1 jF_212_60 (by decide +kernel)) ?_
    refine Eq.trans (jr_s (pc2 := 69) (lv2 := [(6, .int 13), (7, .int a4), (0, .ref 117), (1, .int a1), (2, .int a2), (3, .int a3), (4, .int a4), (5, .int a5)]) (st2 := [.int 13]) jF_212_67 rfl rfl) ?_
    refine Eq.trans (jr_s (pc2 := 71) (lv2 := [(6, .int 13), (7, .int a4), (0, .ref 117), (1, .int a1), (2, .int a2), (3, .int a3), (4, .int a4), (5, .int a5)]) (st2 := [.int 16, .int 13]) jF_212_69 rfl rfl) ?_
    refine Eq.trans (jr_ic0 jF_212_71 (by decide +kernel)) ?_
    refine Eq.trans (jr_s (pc2 := 76) (lv2 := [(6, .int 13), (7, .int a4), (0, .ref 117), (1, .int a1), (2, .int a2), (3, .int a3), (4, .int a4), (5, .int a5)]) (st2 := [.int a4]) jF_212_74 rfl rfl) ?_
    refine Eq.trans (jr_s (pc2 := 81) (lv2 := [(6, .int 13), (7, .int a4), (0, .ref 117), (1, .int a1), (2, .int a2), (3, .int a3), (4, .int a4), (5, .int a5)]) (st2 := [.int a4]) jF_212_76 rfl rfl) ?_
    refine Eq.trans (jr_s (pc2 := 83) (lv2 := [(7, .int a4), (6, .int 13), (0, .ref 117), (1, .int a1), (2, .int a2), (3, .int a3), (4, .int a4), (5, .int a5)]) (st2 := []) jF_212_81 rfl rfl) ?_
    refine Eq.trans (jr_s (pc2 := 84) (lv2 := [(7, .int a4), (6, .int 13), (0, .ref 117), (1, .int a1), (2, .int a2), (3, .int a3), (4, .int a4), (5, .int a5)]) (st2 := [.ref 117]) jF_212_83 rfl rfl) ?_
    refine Eq.trans (jr_gf (v := .ref 118) jF_212_84 (rfl)) ?_
    refine Eq.trans (jr_s (pc2 := 88) (lv2 := [(7, .int a4), (6, .int 13), (0, .ref 117), (1, .int a1), (2, .int a2), (3, .int a3), (4, .int a4), (5, .int a5)]) (st2 := [.ref 117, .ref 118]) jF_212_87 rfl rfl) ?_
    refine Eq.trans (jr_gf (v := .int 13) jF_212_88 (rfl)) ?_
    refine Eq.trans (jr_s (pc2 := 93) (lv2 := [(7, .int a4), (6, .int 13), (0, .ref 117), (1, .int a1), (2, .int a2), (3, .int a3), (4, .int a4), (5, .int a5)]) (st2 := [.int a4, .int 13, .ref 118]) jF_212_91 rfl rfl) ?_
    refine Eq.trans (jr_s (pc2 := 95) (lv2 := [(7, .int a4), (6, .int 13), (0, .ref 117), (1, .int a1), (2, .int a2), (3, .int a3), (4, .int a4), (5, .int a5)]) (st2 := [.int 8, .int a4, .int 13, .ref 118]) jF_212_93 rfl rfl) ?_
    refine Eq.trans (jr_s (pc2 := 96) (lv2 := [(7, .int a4), (6, .int 13), (0, .ref 117), (1, .int a1), (2, .int a2), (3, .int a3), (4, .int a4), (5, .int a5)]) (st2 := [.int 3, .int 8, .int a4, .int 13, .ref 118]) jF_212_95 rfl rfl) ?_
    refine Eq.trans (jr_s (pc2 := 98) (lv2 := [(7, .int a4), (6, .int 13), (0, .ref 117), (1, .int a1), (2, .int a2), (3, .int a3), (4, .int a4), (5, .int a5)]) (st2 := [.int 13, .int 3, .int 8, .int a4, .int 13, .ref 118]) jF_212_96 rfl rfl) ?_
    refine Eq.trans (jr_s (pc2 := 99) (lv2 := [(7, .int a4), (6, .int 13), (0, .ref 117), (1, .int a1), (2, .int a2), (3, .int a3), (4, .int a4), (5, .int a5)]) (st2 := [.int 4, .int 13, .int 3, .int 8, .int a4, .int 13, .ref 118]) jF_212_98 rfl rfl) ?_
    refine Eq.trans (jr_s (pc2 := 100) (lv2 := [(7, .int a4), (6, .int 13), (0, .ref 117), (1, .int a1), (2, .int a2), (3, .int a3), (4, .int a4), (5, .int a5)]) (st2 := [.int 1, .int 3, .int 8, .int a4, .int 13, .ref 118]) jF_212_99 rfl rfl) ?_
    refine Eq.trans (jr_s (pc2 := 101) (lv2 := [(7, .int a4), (6, .int 13), (0, .ref 117), (1, .int a1), (2, .int a2), (3, .int a3), (4, .int a4), (5, .int a5)]) (st2 := [.int 2, .int 8, .int a4, .int 13, .ref 118]) jF_212_100 rfl rfl) ?_
    refine Eq.trans (jr_s (pc2 := 102) (lv2 := [(7, .int a4), (6, .int 13), (0, .ref 117), (1, .int a1), (2, .int a2), (3, .int a3), (4, .int a4), (5, .int a5)]) (st2 := [.int 16, .int a4, .int 13, .ref 118]) jF_212_101 rfl rfl) ?_
    refine Eq.trans (jr_s (pc2 := 103) (lv2 := [(7, .int a4), (6, .int 13), (0, .ref 117), (1, .int a1), (2, .int a2), (3, .int a3), (4, .int a4), (5, .int a5)]) (st2 := [.int (a4 >>> ((16 : Int32) &&& 31)), .int 13, .ref 118]) jF_212_102 rfl rfl) ?_
    refine Eq.trans (jr_s (pc2 := 106) (lv2 := [(7, .int a4), (6, .int 13), (0, .ref 117), (1, .int a1), (2, .int a2), (3, .int a3), (4, .int a4), (5, .int a5)]) (st2 := [.int 255, .int (a4 >>> ((16 : Int32) &&& 31)), .int 13, .ref 118]) jF_212_103 rfl rfl) ?_
    refine Eq.trans (jr_s (pc2 := 107) (lv2 := [(7, .int a4), (6, .int 13), (0, .ref 117), (1, .int a1), (2, .int a2), (3, .int a3), (4, .int a4), (5, .int a5)]) (st2 := [.int ((a4 >>> ((16 : Int32) &&& 31)) &&& 255), .int 13, .ref 118]) jF_212_106 rfl rfl) ?_
    refine Eq.trans (jr_sti (q := 13) jF_212_107 (rfl) (by decide +kernel)) ?_
    refine Eq.trans (jr_s (pc2 := 109) (lv2 := [(7, .int a4), (6, .int 13), (0, .ref 117), (1, .int a1), (2, .int a2), (3, .int a3), (4, .int a4), (5, .int a5)]) (st2 := [.ref 117]) jF_212_108 rfl rfl) ?_
    refine Eq.trans (jr_s (pc2 := 110) (lv2 := [(7, .int a4), (6, .int 13), (0, .ref 117), (1, .int a1), (2, .int a2), (3, .int a3), (4, .int a4), (5, .int a5)]) (st2 := [.ref 117, .ref 117]) jF_212_109 rfl rfl) ?_
    refine Eq.trans (jr_gf (v := .int 13) jF_212_110 (rfl)) ?_
    refine Eq.trans (jr_s (pc2 := 114) (lv2 := [(7, .int a4), (6, .int 13), (0, .ref 117), (1, .int a1), (2, .int a2), (3, .int a3), (4, .int a4), (5, .int a5)]) (st2 := [.int 1, .int 13, .ref 117]) jF_212_113 rfl rfl) ?_
    refine Eq.trans (jr_s (pc2 := 115) (lv2 := [(7, .int a4), (6, .int 13), (0, .ref 117), (1, .int a1), (2, .int a2), (3, .int a3), (4, .int a4), (5, .int a5)]) (st2 := [.int 14, .ref 117]) jF_212_114 rfl rfl) ?_
    refine Eq.trans (jr_pf jF_212_115 (rfl) rfl) ?_
    refine Eq.trans (jr_s (pc2 := 121) (lv2 := [(6, .int 14), (7, .int a4), (0, .ref 117), (1, .int a1), (2, .int a2), (3, .int a3), (4, .int a4), (5, .int a5)]) (st2 := []) jF_212_118 rfl rfl) ?_
    refine Eq.trans (jr_s (pc2 := 28) (lv2 := [(6, .int 14), (7, .int a4), (0, .ref 117), (1, .int a1), (2, .int a2), (3, .int a3), (4, .int a4), (5, .int a5)]) (st2 := []) jF_212_121 rfl rfl) ?_
    refine Eq.trans (jr_s (pc2 := 30) (lv2 := [(6, .int 14), (7, .int a4), (0, .ref 117), (1, .int a1), (2, .int a2), (3, .int a3), (4, .int a4), (5, .int a5)]) (st2 := [.int 14]) jF_212_28 rfl rfl) ?_
    refine Eq.trans (jr_s (pc2 := 32) (lv2 := [(6, .int 14), (7, .int a4), (0, .ref 117), (1, .int a1), (2, .int a2), (3, .int a3), (4, .int a4), (5, .int a5)]) (st2 := [.int 20, .int 14]) jF_212_30 rfl rfl) ?_
    refine Eq.trans (jr_ic0 jF_212_32 (by decide +kernel)) ?_
    refine Eq.trans (jr_s (pc2 := 37) (lv2 := [(6, .int 14), (7, .int a4), (0, .ref 117), (1, .int a1), (2, .int a2), (3, .int a3), (4, .int a4), (5, .int a5)]) (st2 := [.int 14]) jF_212_35 rfl rfl) ?_
    refine Eq.trans (jr_s (pc2 := 38) (lv2 := [(6, .int 14), (7, .int a4), (0, .ref 117), (1, .int a1), (2, .int a2), (3, .int a3), (4, .int a4), (5, .int a5)]) (st2 := [.int 4, .int 14]) jF_212_37 rfl rfl) ?_
    refine Eq.trans (jr_ic1 jF_212_38 (by decide +kernel)) ?_
    refine Eq.trans (jr_s (pc2 := 47) (lv2 := [(6, .int 14), (7, .int a4), (0, .ref 117), (1, .int a1), (2, .int a2), (3, .int a3), (4, .int a4), (5, .int a5)]) (st2 := [.int 14]) jF_212_45 rfl rfl) ?_
    refine Eq.trans (jr_s (pc2 := 49) (lv2 := [(6, .int 14), (7, .int a4), (0, .ref 117), (1, .int a1), (2, .int a2), (3, .int a3), (4, .int a4), (5, .int a5)]) (st2 := [.int 8, .int 14]) jF_212_47 rfl rfl) ?_
    refine Eq.trans (jr_ic1 jF_212_49 (by decide +kernel)) ?_
    refine Eq.trans (jr_s (pc2 := 58) (lv2 := [(6, .int 14), (7, .int a4), (0, .ref 117), (1, .int a1), (2, .int a2), (3, .int a3), (4, .int a4), (5, .int a5)]) (st2 := [.int 14]) jF_212_56 rfl rfl) ?_
    refine Eq.trans (jr_s (pc2 := 60) (lv2 := [(6, .int 14), (7, .int a4), (0, .ref 117), (1, .int a1), (2, .int a2), (3, .int a3), (4, .int a4), (5, .int a5)]) (st2 := [.int 12, .int 14]) jF_212_58 rfl rfl) ?_
    refine Eq.trans (jr_ic1 jF_212_60 (by decide +kernel)) ?_
    refine Eq.trans (jr_s (pc2 := 69) (lv2 := [(6, .int 14), (7, .int a4), (0, .ref 117), (1, .int a1), (2, .int a2), (3, .int a3), (4, .int a4), (5, .int a5)]) (st2 := [.int 14]) jF_212_67 rfl rfl) ?_
    refine Eq.trans (jr_s (pc2 := 71) (lv2 := [(6, .int 14), (7, .int a4), (0, .ref 117), (1, .int a1), (2, .int a2), (3, .int a3), (4, .int a4), (5, .int a5)]) (st2 := [.int 16, .int 14]) jF_212_69 rfl rfl) ?_
    refine Eq.trans (jr_ic0 jF_212_71 (by decide +kernel)) ?_
    refine Eq.trans (jr_s (pc2 := 76) (lv2 := [(6, .int 14), (7, .int a4), (0, .ref 117), (1, .int a1), (2, .int a2), (3, .int a3), (4, .int a4), (5, .int a5)]) (st2 := [.int a4]) jF_212_74 rfl rfl) ?_
    refine Eq.trans (jr_s (pc2 := 81) (lv2 := [(6, .int 14), (7, .int a4), (0, .ref 117), (1, .int a1), (2, .int a2), (3, .int a3), (4, .int a4), (5, .int a5)]) (st2 := [.int a4]) jF_212_76 rfl rfl) ?_
    refine Eq.trans (jr_s (pc2 := 83) (lv2 := [(7, .int a4), (6, .int 14), (0, .ref 117), (1, .int a1), (2, .int a2), (3, .int a3), (4, .int a4), (5, .int a5)]) (st2 := []) jF_212_81 rfl rfl) ?_
    refine Eq.trans (jr_s (pc2 := 84) (lv2 := [(7, .int a4), (6, .int 14), (0, .ref 117), (1, .int a1), (2, .int a2), (3, .int a3), (4, .int a4), (5, .int a5)]) (st2 := [.ref 117]) jF_212_83 rfl rfl) ?_
    refine Eq.trans (jr_gf (v := .ref 118) jF_212_84 (rfl)) ?_
    refine Eq.trans (jr_s (pc2 := 88) (lv2 := [(7, .int a4), (6, .int 14), (0, .ref 117), (1, .int a1), (2, .int a2), (3, .int a3), (4, .int a4), (5, .int a5)]) (st2 := [.ref 117, .ref 118]) jF_212_87 rfl rfl) ?_
    refine Eq.trans (jr_gf (v := .int 14) jF_212_88 (rfl)) ?_
    refine Eq.trans (jr_s (pc2 := 93) (lv2 := [(7, .int a4), (6, .int 14), (0, .ref 117), (1, .int a1), (2, .int a2), (3, .int a3), (4, .int a4), (5, .int a5)]) (st2 := [.int a4, .int 14, .ref 118]) jF_212_91 rfl rfl) ?_
    refine Eq.trans (jr_s (pc2 := 95) (lv2 := [(7, .int a4), (6, .int 14), (0, .ref 117), (1, .int a1), (2, .int a2), (3, .int a3), (4, .int a4), (5, .int a5)]) (st2 := [.int 8, .int a4, .int 14, .ref 118]) jF_212_93 rfl rfl) ?_
    refine Eq.trans (jr_s (pc2 := 96) (lv2 := [(7, .int a4), (6, .int 14), (0, .ref 117), (1, .int a1), (2, .int a2), (3, .int a3), (4, .int a4), (5, .int a5)]) (st2 := [.int 3, .int 8, .int a4, .int 14, .ref 118]) jF_212_95 rfl rfl) ?_
    refine Eq.trans (jr_s (pc2 := 98) (lv2 := [(7, .int a4), (6, .int 14), (0, .ref 117), (1, .int a1), (2, .int a2), (3, .int a3), (4, .int a4), (5, .int a5)]) (st2 := [.int 14, .int 3, .int 8, .int a4, .int 14, .ref 118]) jF_212_96 rfl rfl) ?_
    refine Eq.trans (jr_s (pc2 := 99) (lv2 := [(7, .int a4), (6, .int 14), (0, .ref 117), (1, .int a1), (2, .int a2), (3, .int a3), (4, .int a4), (5, .int a5)]) (st2 := [.int 4, .int 14, .int 3, .int 8, .int a4, .int 14, .ref 118]) jF_212_98 rfl rfl) ?_
    refine Eq.trans (jr_s (pc2 := 100) (lv2 := [(7, .int a4), (6, .int 14), (0, .ref 117), (1, .int a1), (2, .int a2), (3, .int a3), (4, .int a4), (5, .int a5)]) (st2 := [.int 2, .int 3, .int 8, .int a4, .int 14, .ref 118]) jF_212_99 rfl rfl) ?_
    refine Eq.trans (jr_s (pc2 := 101) (lv2 := [(7, .int a4), (6, .int 14), (0, .ref 117), (1, .int a1), (2, .int a2), (3, .int a3), (4, .int a4), (5, .int a5)]) (st2 := [.int 1, .int 8, .int a4, .int 14, .ref 118]) jF_212_100 rfl rfl) ?_
    refine Eq.trans (jr_s (pc2 := 102) (lv2 := [(7, .int a4), (6, .int 14), (0, .ref 117), (1, .int a1), (2, .int a2), (3, .int a3), (4, .int a4), (5, .int a5)]) (st2 := [.int 8, .int a4, .int 14, .ref 118]) jF_212_101 rfl rfl) ?_
    refine Eq.trans (jr_s (pc2 := 103) (lv2 := [(7, .int a4), (6, .int 14), (0, .ref 117), (1, .int a1), (2, .int a2), (3, .int a3), (4, .int a4), (5, .int a5)]) (st2 := [.int (a4 >>> ((8 : Int32) &&& 31)), .int 14, .ref 118]) jF_212_102 rfl rfl) ?_
    refine Eq.trans (jr_s (pc2 := 106) (lv2 := [(7, .int a4), (6, .int 14), (0, .ref 117), (1, .int a1), (2, .int a2), (3, .int a3), (4, .int a4), (5, .int a5)]) (st2 := [.int 255, .int (a4 >>> ((8 : Int32) &&& 31)), .int 14, .ref 118]) jF_212_103 rfl rfl) ?_
    refine Eq.trans (jr_s (pc2 := 107) (lv2 := [(7, .int a4), (6, .int 14), (0, .ref 117), (1, .int a1), (2, .int a2), (3, .int a3), (4, .int a4), (5, .int a5)]) (st2 := [.int ((a4 >>> ((8 : Int32) &&& 31)) &&& 255), .int 14, .ref 118]) jF_212_106 rfl rfl) ?_
    refine Eq.trans (jr_sti (q := 14) jF_212_107 (rfl) (by decide +kernel)) ?_
    refine Eq.trans (jr_s (pc2 := 109) (lv2 := [(7, .int a4), (6, .int 14), (0, .ref 117), (1, .int a1), (2, .int a2), (3, .int a3), (4, .int a4), (5, .int a5)]) (st2 := [.ref 117]) jF_212_108 rfl rfl) ?_
    refine Eq.trans (jr_s (pc2 := 110) (lv2 := [(7, .int a4), (6, .int 14), (0, .ref 117), (1, .int a1), (2, .int a2), (3, .int a3), (4, .int a4), (5, .int a5)]) (st2 := [.ref 117, .ref 117]) jF_212_109 rfl rfl) ?_
    refine Eq.trans (jr_gf (v := .int 14) jF_212_110 (rfl)) ?_
    refine Eq.trans (jr_s (pc2 := 114) (lv2 := [(7, .int a4), (6, .int 14), (0, .ref 117), (1, .int a1), (2, .int a2), (3, .int a3), (4, .int a4), (5, .int a5)]) (st2 := [.int 1, .int 14, .ref 117]) jF_212_113 rfl rfl) ?_
    refine Eq.trans (jr_s (pc2 := 115) (lv2 := [(7, .int a4), (6, .int 14), (0, .ref 117), (1, .int a1), (2, .int a2), (3, .int a3), (4, .int a4), (5, .int a5)]) (st2 := [.int 15, .ref 117]) jF_212_114 rfl rfl) ?_
    refine Eq.trans (jr_pf jF_212_115 (rfl) rfl) ?_
    refine Eq.trans (jr_s (pc2 := 121) (lv2 := [(6, .int 15), (7, .int a4), (0, .ref 117), (1, .int a1), (2, .int a2), (3, .int a3), (4, .int a4), (5, .int a5)]) (st2 := []) jF_212_118 rfl rfl) ?_
    refine Eq.trans (jr_s (pc2 := 28) (lv2 := [(6, .int 15), (7, .int a4), (0, .ref 117), (1, .int a1), (2, .int a2), (3, .int a3), (4, .int a4), (5, .int a5)]) (st2 := []) jF_212_121 rfl rfl) ?_
    refine Eq.trans (jr_s (pc2 := 30) (lv2 := [(6, .int 15), (7, .int a4), (0, .ref 117), (1, .int a1), (2, .int a2), (3, .int a3), (4, .int a4), (5, .int a5)]) (st2 := [.int 15]) jF_212_28 rfl rfl) ?_
    refine Eq.trans (jr_s (pc2 := 32) (lv2 := [(6, .int 15), (7, .int a4), (0, .ref 117), (1, .int a1), (2, .int a2), (3, .int a3), (4, .int a4), (5, .int a5)]) (st2 := [.int 20, .int 15]) jF_212_30 rfl rfl) ?_
    refine Eq.trans (jr_ic0 jF_212_32 (by decide +kernel)) ?_
    refine Eq.trans (jr_s (pc2 := 37) (lv2 := [(6, .int 15), (7, .int a4), (0, .ref 117), (1, .int a1), (2, .int a2), (3, .int a3), (4, .int a4), (5, .int a5)]) (st2 := [.int 15]) jF_212_35 rfl rfl) ?_
    refine Eq.trans (jr_s (pc2 := 38) (lv2 := [(6, .int 15), (7, .int a4), (0, .ref 117), (1, .int a1), (2, .int a2), (3, .int a3), (4, .int a4), (5, .int a5)]) (st2 := [.int 4, .int 15]) jF_212_37 rfl rfl) ?_
    refine Eq.trans (jr_ic1 jF_212_38 (by decide +kernel)) ?_
    refine Eq.trans (jr_s (pc2 := 47) (lv2 := [(6, .int 15), (7, .int a4), (0, .ref 117), (1, .int a1), (2, .int a2), (3, .int a3), (4, .int a4), (5, .int a5)]) (st2 := [.int 15]) jF_212_45 rfl rfl) ?_
    refine Eq.trans (jr_s (pc2 := 49) (lv2 := [(6, .int 15), (7, .int a4), (0, .ref 117), (1, .int a1), (2, .int a2), (3, .int a3), (4, .int a4), (5, .int a5)]) (st2 := [.int 8, .int 15]) jF_212_47 rfl rfl) ?_
    refine Eq.trans (jr_ic1 jF_212_49 (by decide +kernel)) ?_
    refine Eq.trans (jr_s (pc2 := 58) (lv2 := [(6, .int 15), (7, .int a4), (0, .ref 117), (1, .int a1), (2, .int a2), (3, .int a3), (4, .int a4), (5, .int a5)]) (st2 := [.int 15]) jF_212_56 rfl rfl) ?_
    refine Eq.trans (jr_s (pc2 := 60) (lv2 := [(6, .int 15), (7, .int a4), (0, .ref 117), (1, .int a1), (2, .int a2), (3, .int a3), (4, .int a4), (5, .int a5)]) (st2 := [.int 12, .int 15]) jF_212_58 rfl rfl) ?_
    refine Eq.trans (jr_ic1 jF_212_60 (by decide +kernel)) ?_
    refine Eq.trans (jr_s (pc2 := 69) (lv2 := [(6, .int 15), (7, .int a4), (0, .ref 117), (1, .int a1), (2, .int a2), (3, .int a3), (4, .int a4), (5, .int a5)]) (st2 := [.int 15]) jF_212_67 rfl rfl) ?_
    refine Eq.trans (jr_s (pc2 := 71) (lv2 := [(6, .int 15), (7, .int a4), (0, .ref 117), (1, .int a1), (2, .int a2), (3, .int a3), (4, .int a4), (5, .int a5)]) (st2 := [.int 16, .int 15]) jF_212_69 rfl rfl) ?_
    refine Eq.trans (jr_ic0 jF_212_71 (by decide +kernel)) ?_
    refine Eq.trans (jr_s (pc2 := 76) (lv2 := [(6, .int 15), (7, .int a4), (0, .ref 117), (1, .int a1), (2, .int a2), (3, .int a3), (4, .int a4), (5, .int a5)]) (st2 := [.int a4]) jF_212_74 rfl rfl) ?_
    refine Eq.trans (jr_s (pc2 := 81) (lv2 := [(6, .int 15), (7, .int a4), (0, .ref 117), (1, .int a1), (2, .int a2), (3, .int a3), (4, .int a4), (5, .int a5)]) (st2 := [.int a4]) jF_212_76 rfl rfl) ?_
    refine Eq.trans (jr_s (pc2 := 83) (lv2 := [(7, .int a4), (6, .int 15), (0, .ref 117), (1, .int a1), (2, .int a2), (3, .int a3), (4, .int a4), (5, .int a5)]) (st2 := []) jF_212_81 rfl rfl) ?_
    refine Eq.trans (jr_s (pc2 := 84) (lv2 := [(7, .int a4), (6, .int 15), (0, .ref 117), (1, .int a1), (2, .int a2), (3, .int a3), (4, .int a4), (5, .int a5)]) (st2 := [.ref 117]) jF_212_83 rfl rfl) ?_
    refine Eq.trans (jr_gf (v := .ref 118) jF_212_84 (rfl)) ?_
    refine Eq.trans (jr_s (pc2 := 88) (lv2 := [(7, .int a4), (6, .int 15), (0, .ref 117), (1, .int a1), (2, .int a2), (3, .int a3), (4, .int a4), (5, .int a5)]) (st2 := [.ref 117, .ref 118]) jF_212_87 rfl rfl) ?_
    refine Eq.trans (jr_gf (v := .int 15) jF_212_88 (rfl)) ?_
    refine Eq.trans (jr_s (pc2 := 93) (lv2 := [(7, .int a4), (6, .int 15), (0, .ref 117), (1, .int a1), (2, .int a2), (3, .int a3), (4, .int a4), (5, .int a5)]) (st2 := [.int a4, .int 15, .ref 118]) jF_212_91 rfl rfl) ?_
    refine Eq.trans (jr_s (pc2 := 95) (lv2 := [(7, .int a4), (6, .int 15), (0, .ref 117), (1, .int a1), (2, .int a2), (3, .int a3), (4, .int a4), (5, .int a5)]) (st2 := [.int 8, .int a4, .int 15, .ref 118]) jF_212_93 rfl rfl) ?_
    refine Eq.trans (jr_s (pc2 := 96) (lv2 := [(7, .int a4), (6, .int 15), (0, .ref 117), (1, .int a1), (2, .int a2), (3, .int a3), (4, .int a4), (5, .int a5)]) (st2 := [.int 3, .int 8, .int a4, .int 15, .ref 118]) jF_212_95 rfl rfl) ?_
    refine Eq.trans (jr_s (pc2 := 98) (lv2 := [(7, .int a4), (6, .int 15), (0, .ref 117), (1, .int a1), (2, .int a2), (3, .int a3), (4, .int a4), (5, .int a5)]) (st2 := [.int 15, .int 3, .int 8, .int a4, .int 15, .ref 118]) jF_212_96 rfl rfl) ?_
    refine Eq.trans (jr_s (pc2 := 99) (lv2 := [(7, .int a4), (6, .int 15), (0, .ref 117), (1, .int a1), (2, .int a2), (3, .int a3), (4, .int a4), (5, .int a5)]) (st2 := [.int 4, .int 15, .int 3, .int 8, .int a4, .int 15, .ref 118]) jF_212_98 rfl rfl) ?_
    refine Eq.trans (jr_s (pc2 := 100) (lv2 := [(7, .int a4), (6, .int 15), (0, .ref 117), (1, .int a1), (2, .int a2), (3, .int a3), (4, .int a4), (5, .int a5)]) (st2 := [.int 3, .int 3, .int 8, .int a4, .int 15, .ref 118]) jF_212_99 rfl rfl) ?_
    refine Eq.trans (jr_s (pc2 := 101) (lv2 := [(7, .int a4), (6, .int 15), (0, .ref 117), (1, .int a1), (2, .int a2), (3, .int a3), (4, .int a4), (5, .int a5)]) (st2 := [.int 0, .int 8, .int a4, .int 15, .ref 118]) jF_212_100 rfl rfl) ?_
    refine Eq.trans (jr_s (pc2 := 102) (lv2 := [(7, .int a4), (6, .int 15), (0, .ref 117), (1, .int a1), (2, .int a2), (3, .int a3), (4, .int a4), (5, .int a5)]) (st2 := [.int 0, .int a4, .int 15, .ref 118]) jF_212_101 rfl rfl) ?_
    refine Eq.trans (jr_s (pc2 := 103) (lv2 := [(7, .int a4), (6, .int 15), (0, .ref 117), (1, .int a1), (2, .int a2), (3, .int a3), (4, .int a4), (5, .int a5)]) (st2 := [.int (a4 >>> ((0 : Int32) &&& 31)), .int 15, .ref 118]) jF_212_102 rfl rfl) ?_
    refine Eq.trans (jr_s (pc2 := 106) (lv2 := [(7, .int a4), (6, .int 15), (0, .ref 117), (1, .int a1), (2, .int a2), (3, .int a3), (4, .int a4), (5, .int a5)]) (st2 := [.int 255, .int (a4 >>> ((0 : Int32) &&& 31)), .int 15, .ref 118]) jF_212_103 rfl rfl) ?_
    refine Eq.trans (jr_s (pc2 := 107) (lv2 := [(7, .int a4), (6, .int 15), (0, .ref 117), (1, .int a1), (2, .int a2), (3, .int a3), (4, .int a4), (5, .int a5)]) (st2 := [.int ((a4 >>> ((0 : Int32) &&& 31)) &&& 255), .int 15, .ref 118]) jF_212_106 rfl rfl) ?_
    refine Eq.trans (jr_sti (q := 15) jF_212_107 (rfl) (by decide +kernel)) ?_
    refine Eq.trans (jr_s (pc2 := 109) (lv2 := [(7, .int a4), (6, .int 15), (0, .ref 117), (1, .int a1), (2, .int a2), (3, .int a3), (4, .int a4), (5, .int a5)]) (st2 := [.ref 117]) jF_212_108 rfl rfl) ?_
    refine Eq.trans (jr_s (pc2 := 110) (lv2 := [(7, .int a4), (6, .int 15), (0, .ref 117), (1, .int a1), (2, .int a2), (3, .int a3), (4, .int a4), (5, .int a5)]) (st2 := [.ref 117, .ref 117]) jF_212_109 rfl rfl) ?_
    refine Eq.trans (jr_gf (v := .int 15) jF_212_110 (rfl)) ?_
    refine Eq.trans (jr_s (pc2 := 114) (lv2 := [(7, .int a4), (6, .int 15), (0, .ref 117), (1, .int a1), (2, .int a2), (3, .int a3), (4, .int a4), (5, .int a5)]) (st2 := [.int 1, .int 15, .ref 117]) jF_212_113 rfl rfl) ?_
    refine Eq.trans (jr_s (pc2 := 115) (lv2 := [(7, .int a4), (6, .int 15), (0, .ref 117), (1, .int a1), (2, .int a2), (3, .int a3), (4, .int a4), (5, .int a5)]) (st2 := [.int 16, .ref 117]) jF_212_114 rfl rfl) ?_
    refine Eq.trans (jr_pf jF_212_115 (rfl) rfl) ?_
    refine Eq.trans (jr_s (pc2 := 121) (lv2 := [(6, .int 16), (7, .int a4), (0, .ref 117), (1, .int a1), (2, .int a2), (3, .int a3), (4, .int a4), (5, .int a5)]) (st2 := []) jF_212_118 rfl rfl) ?_
    refine Eq.trans (jr_s (pc2 := 28) (lv2 := [(6, .int 16), (7, .int a4), (0, .ref 117), (1, .int a1), (2, .int a2), (3, .int a3), (4, .int a4), (5, .int a5)]) (st2 := []) jF_212_121 rfl rfl) ?_
    refine Eq.trans (jr_s (pc2 := 30) (lv2 := [(6, .int 16), (7, .int a4), (0, .ref 117), (1, .int a1), (2, .int a2), (3, .int a3), (4, .int a4), (5, .int a5)]) (st2 := [.int 16]) jF_212_28 rfl rfl) ?_
    refine Eq.trans (jr_s (pc2 := 32) (lv2 := [(6, .int 16), (7, .int a4), (0, .ref 117), (1, .int a1), (2, .int a2), (3, .int a3), (4, .int a4), (5, .int a5)]) (st2 := [.int 20, .int 16]) jF_212_30 rfl rfl) ?_
    refine Eq.trans (jr_ic0 jF_212_32 (by decide +kernel)) ?_
    refine Eq.trans (jr_s (pc2 := 37) (lv2 := [(6, .int 16), (7, .int a4), (0, .ref 117), (1, .int a1), (2, .int a2), (3, .int a3), (4, .int a4), (5, .int a5)]) (st2 := [.int 16]) jF_212_35 rfl rfl) ?_
    refine Eq.trans (jr_s (pc2 := 38) (lv2 := [(6, .int 16), (7, .int a4), (0, .ref 117), (1, .int a1), (2, .int a2), (3, .int a3), (4, .int a4), (5, .int a5)]) (st2 := [.int 4, .int 16]) jF_212_37 rfl rfl) ?_
    refine Eq.trans (jr_ic1 jF_212_38 (by decide +kernel)) ?_
    refine Eq.trans (jr_s (pc2 := 47) (lv2 := [(6, .int 16), (7, .int a4), (0, .ref 117), (1, .int a1), (2, .int a2), (3, .int a3), (4, .int a4), (5, .int a5)]) (st2 := [.int 16]) jF_212_45 rfl rfl) ?_
    refine Eq.trans (jr_s (pc2 := 49) (lv2 := [(6, .int 16), (7, .int a4), (0, .ref 117), (1, .int a1), (2, .int a2), (3, .int a3), (4, .int a4), (5, .int a5)]) (st2 := [.int 8, .int 16]) jF_212_47 rfl rfl) ?_
    refine Eq.trans (jr_ic1 jF_212_49 (by decide +kernel)) ?_
    refine Eq.trans (jr_s (pc2 := 58) (lv2 := [(6, .int 16), (7, .int a4), (0, .ref 117), (1, .int a1), (2, .int a2), (3, .int a3), (4, .int a4), (5, .int a5)]) (st2 := [.int 16]) jF_212_56 rfl rfl) ?_
    refine Eq.trans (jr_s (pc2 := 60) (lv2 := [(6, .int 16), (7, .int a4), (0, .ref 117), (1, .int a1), (2, .int a2), (3, .int a3), (4, .int a4), (5, .int a5)]) (st2 := [.int 12, .int 16]) jF_212_58 rfl rfl) ?_
    refine Eq.trans (jr_ic1 jF_212_60 (by decide +kernel)) ?_
    refine Eq.trans (jr_s (pc2 := 69) (lv2 := [(6, .int 16), (7, .int a4), (0, .ref 117), (1, .int a1), (2, .int a2), (3, .int a3), (4, .int a4), (5, .int a5)]) (st2 := [.int 16]) jF_212_67 rfl rfl) ?_
    refine Eq.trans (jr_s (pc2 := 71) (lv2 := [(6, .int 16), (7, .int a4), (0, .ref 117), (1, .int a1), (2, .int a2), (3, .int a3), (4, .int a4), (5, .int a5)]) (st2 := [.int 16, .int 16]) jF_212_69 rfl rfl) ?_
    refine Eq.trans (jr_ic1 jF_212_71 (by decide +kernel)) ?_
    refine Eq.trans (jr_s (pc2 := 81) (lv2 := [(6, .int 16), (7, .int a4), (0, .ref 117), (1, .int a1), (2, .int a2), (3, .int a3), (4, .int a4), (5, .int a5)]) (st2 := [.int a5]) jF_212_79 rfl rfl) ?_
    refine Eq.trans (jr_s (pc2 := 83) (lv2 := [(7, .int a5), (6, .int 16), (0, .ref 117), (1, .int a1), (2, .int a2), (3, .int a3), (4, .int a4), (5, .int a5)]) (st2 := []) jF_212_81 rfl rfl) ?_
    refine Eq.trans (jr_s (pc2 := 84) (lv2 := [(7, .int a5), (6, .int 16), (0, .ref 117), (1, .int a1), (2, .int a2), (3, .int a3), (4, .int a4), (5, .int a5)]) (st2 := [.ref 117]) jF_212_83 rfl rfl) ?_
    refine Eq.trans (jr_gf (v := .ref 118) jF_212_84 (rfl)) ?_
    refine Eq.trans (jr_s (pc2 := 88) (lv2 := [(7, .int a5), (6, .int 16), (0, .ref 117), (1, .int a1), (2, .int a2), (3, .int a3), (4, .int a4), (5, .int a5)]) (st2 := [.ref 117, .ref 118]) jF_212_87 rfl rfl) ?_
    refine Eq.trans (jr_gf (v := .int 16) jF_212_88 (rfl)) ?_
    refine Eq.trans (jr_s (pc2 := 93) (lv2 := [(7, .int a5), (6, .int 16), (0, .ref 117), (1, .int a1), (2, .int a2), (3, .int a3), (4, .int a4), (5, .int a5)]) (st2 := [.int a5, .int 16, .ref 118]) jF_212_91 rfl rfl) ?_
    refine Eq.trans (jr_s (pc2 := 95) (lv2 := [(7, .int a5), (6, .int 16), (0, .ref 117), (1, .int a1), (2, .int a2), (3, .int a3), (4, .int a4), (5, .int a5)]) (st2 := [.int 8, .int a5, .int 16, .ref 118]) jF_212_93 rfl rfl) ?_
    refine Eq.trans (jr_s (pc2 := 96) (lv2 := [(7, .int a5), (6, .int 16), (0, .ref 117), (1, .int a1), (2, .int a2), (3, .int a3), (4, .int a4), (5, .int a5)]) (st2 := [.int 3, .int 8, .int a5, .int 16, .ref 118]) jF_212_95 rfl rfl) ?_
    refine Eq.trans (jr_s (pc2 := 98) (lv2 := [(7, .int a5), (6, .int 16), (0, .ref 117), (1, .int a1), (2, .int a2), (3, .int a3), (4, .int a4), (5, .int a5)]) (st2 := [.int 16, .int 3, .int 8, .int a5, .int 16, .ref 118]) jF_212_96 rfl rfl) ?_
    refine Eq.trans (jr_s (pc2 := 99) (lv2 := [(7, .int a5), (6, .int 16), (0, .ref 117), (1, .int a1), (2, .int a2), (3, .int a3), (4, .int a4), (5, .int a5)]) (st2 := [.int 4, .int 16, .int 3, .int 8, .int a5, .int 16, .ref 118]) jF_212_98 rfl rfl) ?_
    refine Eq.trans (jr_s (pc2 := 100) (lv2 := [(7, .int a5), (6, .int 16), (0, .ref 117), (1, .int a1), (2, .int a2), (3, .int a3), (4, .int a4), (5, .int a5)]) (st2 := [.int 0, .int 3, .int 8, .int a5, .int 16, .ref 118]) jF_212_99 rfl rfl) ?_
    refine Eq.trans (jr_s (pc2 := 101) (lv2 := [(7, .int a5), (6, .int 16), (0, .ref 117), (1, .int a1), (2, .int a2), (3, .int a3), (4, .int a4), (5, .int a5)]) (st2 := [.int 3, .int 8, .int a5, .int 16, .ref 118]) jF_212_100 rfl rfl) ?_
    refine Eq.trans (jr_s (pc2 := 102) (lv2 := [(7, .int a5), (6, .int 16), (0, .ref 117), (1, .int a1), (2, .int a2), (3, .int a3), (4, .int a4), (5, .int a5)]) (st2 := [.int 24, .int a5, .int 16, .ref 118]) jF_212_101 rfl rfl) ?_
    refine Eq.trans (jr_s (pc2 := 103) (lv2 := [(7, .int a5), (6, .int 16), (0, .ref 117), (1, .int a1), (2, .int a2), (3, .int a3), (4, .int a4), (5, .int a5)]) (st2 := [.int (a5 >>> ((24 : Int32) &&& 31)), .int 16, .ref 118]) jF_212_102 rfl rfl) ?_
    refine Eq.trans (jr_s (pc2 := 106) (lv2 := [(7, .int a5), (6, .int 16), (0, .ref 117), (1, .int a1), (2, .int a2), (3, .int a3), (4, .int a4), (5, .int a5)]) (st2 := [.int 255, .int (a5 >>> ((24 : Int32) &&& 31)), .int 16, .ref 118]) jF_212_103 rfl rfl) ?_
    refine Eq.trans (jr_s (pc2 := 107) (lv2 := [(7, .int a5), (6, .int 16), (0, .ref 117), (1, .int a1), (2, .int a2), (3, .int a3), (4, .int a4), (5, .int a5)]) (st2 := [.int ((a5 >>> ((24 : Int32) &&& 31)) &&& 255), .int 16, .ref 118]) jF_212_106 rfl rfl) ?_
    refine Eq.trans (jr_sti (q := 16) jF_212_107 (rfl) (by decide +kernel)) ?_
    refine Eq.trans (jr_s (pc2 := 109) (lv2 := [(7, .int a5), (6, .int 16), (0, .ref 117), (1, .int a1), (2, .int a2), (3, .int a3), (4, .int a4), (5, .int a5)]) (st2 := [.ref 117]) jF_212_108 rfl rfl) ?_
    refine Eq.trans (jr_s (pc2 := 110) (lv2 := [(7, .int a5), (6, .int 16), (0, .ref 117), (1, .int a1), (2, .int a2), (3, .int a3), (4, .int a4), (5, .int a5)]) (st2 := [.ref 117, .ref 117]) jF_212_109 rfl rfl) ?_
    refine Eq.trans (jr_gf (v := .int 16) jF_212_110 (rfl)) ?_
    refine Eq.trans (jr_s (pc2 := 114) (lv2 := [(7, .int a5), (6, .int 16), (0, .ref 117), (1, .int a1), (2, .int a2), (3, .int a3), (4, .int a4), (5, .int a5)]) (st2 := [.int 1, .int 16, .ref 117]) jF_212_113 rfl rfl) ?_
    refine Eq.trans (jr_s (pc2 := 115) (lv2 := [(7, .int a5), (6, .int 16), (0, .ref 117), (1, .int a1), (2, .int a2), (3, .int a3), (4, .int a4), (5, .int a5)]) (st2 := [.int 17, .ref 117]) jF_212_114 rfl rfl) ?_
    refine Eq.trans (jr_pf jF_212_115 (rfl) rfl) ?_
    refine Eq.trans (jr_s (pc2 := 121) (lv2 := [(6, .int 17), (7, .int a5), (0, .ref 117), (1, .int a1), (2, .int a2), (3, .int a3), (4, .int a4), (5, .int a5)]) (st2 := []) jF_212_118 rfl rfl) ?_
    refine Eq.trans (jr_s (pc2 := 28) (lv2 := [(6, .int 17), (7, .int a5), (0, .ref 117), (1, .int a1), (2, .int a2), (3, .int a3), (4, .int a4), (5, .int a5)]) (st2 := []) jF_212_121 rfl rfl) ?_
    refine Eq.trans (jr_s (pc2 := 30) (lv2 := [(6, .int 17), (7, .int a5), (0, .ref 117), (1, .int a1), (2, .int a2), (3, .int a3), (4, .int a4), (5, .int a5)]) (st2 := [.int 17]) jF_212_28 rfl rfl) ?_
    refine Eq.trans (jr_s (pc2 := 32) (lv2 := [(6, .int 17), (7, .int a5), (0, .ref 117), (1, .int a1), (2, .int a2), (3, .int a3), (4, .int a4), (5, .int a5)]) (st2 := [.int 20, .int 17]) jF_212_30 rfl rfl) ?_
    refine Eq.trans (jr_ic0 jF_212_32 (by decide +kernel)) ?_
    refine Eq.trans (jr_s (pc2 := 37) (lv2 := [(6, .int 17), (7, .int a5), (0, .ref 117), (1, .int a1), (2, .int a2), (3, .int a3), (4, .int a4), (5, .int a5)]) (st2 := [.int 17]) jF_212_35 rfl rfl) ?_
    refine Eq.trans (jr_s (pc2 := 38) (lv2 := [(6, .int 17), (7, .int a5), (0, .ref 117), (1, .int a1), (2, .int a2), (3, .int a3), (4, .int a4), (5, .int a5)]) (st2 := [.int 4, .int 17]) jF_212_37 rfl rfl) ?_
    refine Eq.trans (jr_ic1 jF_212_38 (by decide +kernel)) ?_
    refine Eq.trans (jr_s (pc2 := 47) (lv2 := [(6, .int 17), (7, .int a5), (0, .ref 117), (1, .int a1), (2, .int a2), (3, .int a3), (4, .int a4), (5, .int a5)]) (st2 := [.int 17]) jF_212_45 rfl rfl) ?_
    refine Eq.trans (jr_s (pc2 := 49) (lv2 := [(6, .int 17), (7, .int a5), (0, .ref 117), (1, .int a1), (2, .int a2), (3, .int a3), (4, .int a4), (5, .int a5)]) (st2 := [.int 8, .int 17]) jF_212_47 rfl rfl) ?_
    refine Eq.trans (jr_ic1 jF_212_49 (by decide +kernel)) ?_
    refine Eq.trans (jr_s (pc2 := 58) (lv2 := [(6, .int 17), (7, .int a5), (0, .ref 117), (1, .int a1), (2, .int a2), (3, .int a3), (4, .int a4), (5, .int a5)]) (st2 := [.int 17]) jF_212_56 rfl rfl) ?_
    refine Eq.trans (jr_s (pc2 := 60) (lv2 := [(6, .int 17), (7, .int a5), (0, .ref 117), (1, .int a1), (2, .int a2), (3, .int a3), (4, .int a4), (5, .int a5)]) (st2 := [.int 12, .int 17]) jF_212_58 rfl rfl) ?_
    refine Eq.trans (jr_ic1 jF_212_60 (by decide +kernel)) ?_
    refine Eq.trans (jr_s (pc2 := 69) (lv2 := [(6, .int 17), (7, .int a5), (0, .ref 117), (1, .int a1), (2, .int a2), (3, .int a3), (4, .int a4), (5, .int a5)]) (st2 := [.int 17]) jF_212_67 rfl rfl) ?_
    refine Eq.trans (jr_s (pc2 := 71) (lv2 := [(6, .int 17), (7, .int a5), (0, .ref 117), (1, .int a1), (2, .int a2), (3, .int a3), (4, .int a4), (5, .int a5)]) (st2 := [.int 16, .int 17]) jF_212_69 rfl rfl) ?_
    refine Eq.trans (jr_ic1 jF_212_71 (by decide +kernel)) ?_
    refine Eq.trans (jr_s (pc2 := 81) (lv2 := [(6, .int 17), (7, .int a5), (0, .ref 117), (1, .int a1), (2, .int a2), (3, .int a3), (4, .int a4), (5, .int a5)]) (st2 := [.int a5]) jF_212_79 rfl rfl) ?_
    refine Eq.trans (jr_s (pc2 := 83) (lv2 := [(7, .int a5), (6, .int 17), (0, .ref 117), (1, .int a1), (2, .int a2), (3, .int a3), (4, .int a4), (5, .int a5)]) (st2 := []) jF_212_81 rfl rfl) ?_
    refine Eq.trans (jr_s (pc2 := 84) (lv2 := [(7, .int a5), (6, .int 17), (0, .ref 117), (1, .int a1), (2, .int a2), (3, .int a3), (4, .int a4), (5, .int a5)]) (st2 := [.ref 117]) jF_212_83 rfl rfl) ?_
    refine Eq.trans (jr_gf (v := .ref 118) jF_212_84 (rfl)) ?_
    refine Eq.trans (jr_s (pc2 := 88) (lv2 := [(7, .int a5), (6, .int 17), (0, .ref 117), (1, .int a1), (2, .int a2), (3, .int a3), (4, .int a4), (5, .int a5)]) (st2 := [.ref 117, .ref 118]) jF_212_87 rfl rfl) ?_
    refine Eq.trans (jr_gf (v := .int 17) jF_212_88 (rfl)) ?_
    refine Eq.trans (jr_s (pc2 := 93) (lv2 := [(7, .int a5), (6, .int 17), (0, .ref 117), (1, .int a1), (2, .int a2), (3, .int a3), (4, .int a4), (5, .int a5)]) (st2 := [.int a5, .int 17, .ref 118]) jF_212_91 rfl rfl) ?_
    refine Eq.trans (jr_s (pc2 := 95) (lv2 := [(7, .int a5), (6, .int 17), (0, .ref 117), (1, .int a1), (2, .int a2), (3, .int a3), (4, .int a4), (5, .int a5)]) (st2 := [.int 8, .int a5, .int 17, .ref 118]) jF_212_93 rfl rfl) ?_
    refine Eq.trans (jr_s (pc2 := 96) (lv2 := [(7, .int a5), (6, .int 17), (0, .ref 117), (1, .int a1), (2, .int a2), (3, .int a3), (4, .int a4), (5, .int a5)]) (st2 := [.int 3, .int 8, .int a5, .int 17, .ref 118]) jF_212_95 rfl rfl) ?_
    refine Eq.trans (jr_s (pc2 := 98) (lv2 := [(7, .int a5), (6, .int 17), (0, .ref 117), (1, .int a1), (2, .int a2), (3, .int a3), (4, .int a4), (5, .int a5)]) (st2 := [.int 17, .int 3, .int 8, .int a5, .int 17, .ref 118]) jF_212_96 rfl rfl) ?_
    refine Eq.trans (jr_s (pc2 := 99) (lv2 := [(7, .int a5), (6, .int 17), (0, .ref 117), (1, .int a1), (2, .int a2), (3, .int a3), (4, .int a4), (5, .int a5)]) (st2 := [.int 4, .int 17, .int 3, .int 8, .int a5, .int 17, .ref 118]) jF_212_98 rfl rfl) ?_
    refine Eq.trans (jr_s (pc2 := 100) (lv2 := [(7, .int a5), (6, .int 17), (0, .ref 117), (1, .int a1), (2, .int a2), (3, .int a3), (4, .int a4), (5, .int a5)]) (st2 := [.int 1, .int 3, .int 8, .int a5, .int 17, .ref 118]) jF_212_99 rfl rfl) ?_
    refine Eq.trans (jr_s (pc2 := 101) (lv2 := [(7, .int a5), (6, .int 17), (0, .ref 117), (1, .int a1), (2, .int a2), (3, .int a3), (4, .int a4), (5, .int a5)]) (st2 := [.int 2, .int 8, .int a5, .int 17, .ref 118]) jF_212_100 rfl rfl) ?_
    refine Eq.trans (jr_s (pc2 := 102) (lv2 := [(7, .int a5), (6, .int 17), (0, .ref 117), (1, .int a1), (2, .int a2), (3, .int a3), (4, .int a4), (5, .int a5)]) (st2 := [.int 16, .int a5, .int 17, .ref 118]) jF_212_101 rfl rfl) ?_
    refine Eq.trans (jr_s (pc2 := 103) (lv2 := [(7, .int a5), (6, .int 17), (0, .ref 117), (1, .int a1), (2, .int a2), (3, .int a3), (4, .int a4), (5, .int a5)]) (st2 := [.int (a5 >>> ((16 : Int32) &&& 31)), .int 17, .ref 118]) jF_212_102 rfl rfl) ?_
    refine Eq.trans (jr_s (pc2 := 106) (lv2 := [(7, .int a5), (6, .int 17), (0, .ref 117), (1, .int a1), (2, .int a2), (3, .int a3), (4, .int a4), (5, .int a5)]) (st2 := [.int 255, .int (a5 >>> ((16 : Int32) &&& 31)), .int 17, .ref 118]) jF_212_103 rfl rfl) ?_
    refine Eq.trans (jr_s (pc2 := 107) (lv2 := [(7, .int a5), (6, .int 17), (0, .ref 117), (1, .int a1), (2, .int a2), (3, .int a3), (4, .int a4), (5, .int a5)]) (st2 := [.int ((a5 >>> ((16 : Int32) &&& 31)) &&& 255), .int 17, .ref 118]) jF_212_106 rfl rfl) ?_
    refine Eq.trans (jr_sti (q := 17) jF_212_107 (rfl) (by decide +kernel)) ?_
    refine Eq.trans (jr_s (pc2 := 109) (lv2 := [(7, .int a5), (6, .int 17), (0, .ref 117), (1, .int a1), (2, .int a2), (3, .int a3), (4, .int a4), (5, .int a5)]) (st2 := [.ref 117]) jF_212_108 rfl rfl) ?_
    refine Eq.trans (jr_s (pc2 := 110) (lv2 := [(7, .int a5), (6, .int 17), (0, .ref 117), (1, .int a1), (2, .int a2), (3, .int a3), (4, .int a4), (5, .int a5)]) (st2 := [.ref 117, .ref 117]) jF_212_109 rfl rfl) ?_
    refine Eq.trans (jr_gf (v := .int 17) jF_212_110 (rfl)) ?_
    refine Eq.trans (jr_s (pc2 := 114) (lv2 := [(7, .int a5), (6, .int 17), (0, .ref 117), (1, .int a1), (2, .int a2), (3, .int a3), (4, .int a4), (5, .int a5)]) (st2 := [.int 1, .int 17, .ref 117]) jF_212_113 rfl rfl) ?_
    refine Eq.trans (jr_s (pc2 := 115) (lv2 := [(7, .int a5), (6, .int 17), (0, .ref 117), (1, .int a1), (2, .int a2), (3, .int a3), (4, .int a4), (5, .int a5)]) (st2 := [.int 18, .ref 117]) jF_212_114 rfl rfl) ?_
    refine Eq.trans (jr_pf jF_212_115 (rfl) rfl) ?_
    refine Eq.trans (jr_s (pc2 := 121) (lv2 := [(6, .int 18), (7, .int a5), (0, .ref 117), (1, .int a1), (2, .int a2), (3, .int a3), (4, .int a4), (5, .int a5)]) (st2 := []) jF_212_118 rfl rfl) ?_
    refine Eq.trans (jr_s (pc2 := 28) (lv2 := [(6, .int 18), (7, .int a5), (0, .ref 117), (1, .int a1), (2, .int a2), (3, .int a3), (4, .int a4), (5, .int a5)]) (st2 := []) jF_212_121 rfl rfl) ?_
    refine Eq.trans (jr_s (pc2 := 30) (lv2 := [(6, .int 18), (7, .int a5), (0, .ref 117), (1, .int a1), (2, .int a2), (3, .int a3), (4, .int a4), (5, .int a5)]) (st2 := [.int 18]) jF_212_28 rfl rfl) ?_
    refine Eq.trans (jr_s (pc2 := 32) (lv2 := [(6, .int 18), (7, .int a5), (0, .ref 117), (1, .int a1), (2, .int a2), (3, .int a3), (4, .int a4), (5, .int a5)]) (st2 := [.int 20, .int 18]) jF_212_30 rfl rfl) ?_
    refine Eq.trans (jr_ic0 jF_212_32 (by decide +kernel)) ?_
    refine Eq.trans (jr_s (pc2 := 37) (lv2 := [(6, .int 18), (7, .int a5), (0, .ref 117), (1, .int a1), (2, .int a2), (3, .int a3), (4, .int a4), (5, .int a5)]) (st2 := [.int 18]) jF_212_35 rfl rfl) ?_
    refine Eq.trans (jr_s (pc2 := 38) (lv2 := [(6, .int 18), (7, .int a5), (0, .ref 117), (1, .int a1), (2, .int a2), (3, .int a3), (4, .int a4), (5, .int a5)]) (st2 := [.int 4, .int 18]) jF_212_37 rfl rfl) ?_
    refine Eq.trans (jr_ic1 jF_212_38 (by decide +kernel)) ?_
    refine Eq.trans (jr_s (pc2 := 47) (lv2 := [(6, .int 18), (7, .int a5), (0, .ref 117), (1, .int a1), (2, .int a2), (3, .int a3), (4, .int a4), (5, .int a5)]) (st2 := [.int 18]) jF_212_45 rfl rfl) ?_
    refine Eq.trans (jr_s (pc2 := 49) (lv2 := [(6, .int 18), (7, .int a5), (0, .ref 117), (1, .int a1), (2, .int a2), (3, .int a3), (4, .int a4), (5, .int a5)]) (st2 := [.int 8, .int 18]) jF_212_47 rfl rfl) ?_
    refine Eq.trans (jr_ic1 jF_212_49 (by decide +kernel)) ?_
    refine Eq.trans (jr_s (pc2 := 58) (lv2 := [(6, .int 18), (7, .int a5), (0, .ref 117), (1, .int a1), (2, .int a2), (3, .int a3), (4, .int a4), (5, .int a5)]) (st2 := [.int 18]) jF_212_56 rfl rfl) ?_
    refine Eq.trans (jr_s (pc2 := 60) (lv2 := [(6, .int 18), (7, .int a5), (0, .ref 117), (1, .int a1), (2, .int a2), (3, .int a3), (4, .int a4), (5, .int a5)]) (st2 := [.int 12, .int 18]) jF_212_58 rfl rfl) ?_
    refine Eq.trans (jr_ic1 jF_212_60 (by decide +kernel)) ?_
    refine Eq.trans (jr_s (pc2 := 69) (lv2 := [(6, .int 18), (7, .int a5), (0, .ref 117), (1, .int a1), (2, .int a2), (3, .int a3), (4, .int a4), (5, .int a5)]) (st2 := [.int 18]) jF_212_67 rfl rfl) ?_
    refine Eq.trans (jr_s (pc2 := 71) (lv2 := [(6, .int 18), (7, .int a5), (0, .ref 117), (1, .int a1), (2, .int a2), (3, .int a3), (4, .int a4), (5, .int a5)]) (st2 := [.int 16, .int 18]) jF_212_69 rfl rfl) ?_
    refine Eq.trans (jr_ic1 jF_212_71 (by decide +kernel)) ?_
    refine Eq.trans (jr_s (pc2 := 81) (lv2 := [(6, .int 18), (7, .int a5), (0, .ref 117), (1, .int a1), (2, .int a2), (3, .int a3), (4, .int a4), (5, .int a5)]) (st2 := [.int a5]) jF_212_79 rfl rfl) ?_
    refine Eq.trans (jr_s (pc2 := 83) (lv2 := [(7, .int a5), (6, .int 18), (0, .ref 117), (1, .int a1), (2, .int a2), (3, .int a3), (4, .int a4), (5, .int a5)]) (st2 := []) jF_212_81 rfl rfl) ?_
    refine Eq.trans (jr_s (pc2 := 84) (lv2 := [(7, .int a5), (6, .int 18), (0, .ref 117), (1, .int a1), (2, .int a2), (3, .int a3), (4, .int a4), (5, .int a5)]) (st2 := [.ref 117]) jF_212_83 rfl rfl) ?_
    refine Eq.trans (jr_gf (v := .ref 118) jF_212_84 (rfl)) ?_
    refine Eq.trans (jr_s (pc2 := 88) (lv2 := [(7, .int a5), (6, .int 18), (0, .ref 117), (1, .int a1), (2, .int a2), (3, .int a3), (4, .int a4), (5, .int a5)]) (st2 := [.ref 117, .ref 118]) jF_212_87 rfl rfl) ?_
    refine Eq.trans (jr_gf (v := .int 18) jF_212_88 (rfl)) ?_
    refine Eq.trans (jr_s (pc2 := 93) (lv2 := [(7, .int a5), (6, .int 18), (0, .ref 117), (1, .int a1), (2, .int a2), (3, .int a3), (4, .int a4), (5, .int a5)]) (st2 := [.int a5, .int 18, .ref 118]) jF_212_91 rfl rfl) ?_
    refine Eq.trans (jr_s (pc2 := 95) (lv2 := [(7, .int a5), (6, .int 18), (0, .ref 117), (1, .int a1), (2, .int a2), (3, .int a3), (4, .int a4), (5, .int a5)]) (st2 := [.int 8, .int a5, .int 18, .ref 118]) jF_212_93 rfl rfl) ?_
    refine Eq.trans (jr_s (pc2 := 96) (lv2 := [(7, .int a5), (6, .int 18), (0, .ref 117), (1, .int a1), (2, .int a2), (3, .int a3), (4, .int a4), (5, .int a5)]) (st2 := [.int 3, .int 8, .int a5, .int 18, .ref 118]) jF_212_95 rfl rfl) ?_
    refine Eq.trans (jr_s (pc2 := 98) (lv2 := [(7, .int a5), (6, .int 18), (0, .ref 117), (1, .int a1), (2, .int a2), (3, .int a3), (4, .int a4), (5, .int a5)]) (st2 := [.int 18, .int 3, .int 8, .int a5, .int 18, .ref 118]) jF_212_96 rfl rfl) ?_
    refine Eq.trans (jr_s (pc2 := 99) (lv2 := [(7, .int a5), (6, .int 18), (0, .ref 117), (1, .int a1), (2, .int a2), (3, .int a3), (4, .int a4), (5, .int a5)]) (st2 := [.int 4, .int 18, .int 3, .int 8, .int a5, .int 18, .ref 118]) jF_212_98 rfl rfl) ?_
    refine Eq.trans (jr_s (pc2 := 100) (lv2 := [(7, .int a5), (6, .int 18), (0, .ref 117), (1, .int a1), (2, .int a2), (3, .int a3), (4, .int a4), (5, .int a5)]) (st2 := [.int 2, .int 3, .int 8, .int a5, .int 18, .ref 118]) jF_212_99 rfl rfl) ?_
    refine Eq.trans (jr_s (pc2 := 101) (lv2 := [(7, .int a5), (6, .int 18), (0, .ref 117), (1, .int a1), (2, .int a2), (3, .int a3), (4, .int a4), (5, .int a5)]) (st2 := [.int 1, .int 8, .int a5, .int 18, .ref 118]) jF_212_100 rfl rfl) ?_
    refine Eq.trans (jr_s (pc2 := 102) (lv2 := [(7, .int a5), (6, .int 18), (0, .ref 117), (1, .int a1), (2, .int a2), (3, .int a3), (4, .int a4), (5, .int a5)]) (st2 := [.int 8, .int a5, .int 18, .ref 118]) jF_212_101 rfl rfl) ?_
    refine Eq.trans (jr_s (pc2 := 103) (lv2 := [(7, .int a5), (6, .int 18), (0, .ref 117), (1, .int a1), (2, .int a2), (3, .int a3), (4, .int a4), (5, .int a5)]) (st2 := [.int (a5 >>> ((8 : Int32) &&& 31)), .int 18, .ref 118]) jF_212_102 rfl rfl) ?_
    refine Eq.trans (jr_s (pc2 := 106) (lv2 := [(7, .int a5), (6, .int 18), (0, .ref 117), (1, .int a1), (2, .int a2), (3, .int a3), (4, .int a4), (5, .int a5)]) (st2 := [.int 255, .int (a5 >>> ((8 : Int32) &&& 31)), .int 18, .ref 118]) jF_212_103 rfl rfl) ?_
    refine Eq.trans (jr_s (pc2 := 107) (lv2 := [(7, .int a5), (6, .int 18), (0, .ref 117), (1, .int a1), (2, .int a2), (3, .int a3), (4, .int a4), (5, .int a5)]) (st2 := [.int ((a5 >>> ((8 : Int32) &&& 31)) &&& 255), .int 18, .ref 118]) jF_212_106 rfl rfl) ?_
    refine Eq.trans (jr_sti (q := 18) jF_212_107 (rfl) (by decide +kernel)) ?_
    refine Eq.trans (jr_s (pc2 := 109) (lv2 := [(7, .int a5), (6, .int 18), (0, .ref 117), (1, .int a1), (2, .int a2), (3, .int a3), (4, .int a4), (5, .int a5)]) (st2 := [.ref 117]) jF_212_108 rfl rfl) ?_
    refine Eq.trans (jr_s (pc2 := 110) (lv2 := [(7, .int a5), (6, .int 18), (0, .ref 117), (1, .int a1), (2, .int a2), (3, .int a3), (4, .int a4), (5, .int a5)]) (st2 := [.ref 117, .ref 117]) jF_212_109 rfl rfl) ?_
    refine Eq.trans (jr_gf (v := .int 18) jF_212_110 (rfl)) ?_
    refine Eq.trans (jr_s (pc2 := 114) (lv2 := [(7, .int a5), (6, .int 18), (0, .ref 117), (1, .int a1), (2, .int a2), (3, .int a3), (4, .int a4), (5, .int a5)]) (st2 := [.int 1, .int 18, .ref 117]) jF_212_113 rfl rfl) ?_
    refine Eq.trans (jr_s (pc2 := 115) (lv2 := [(7, .int a5), (6, .int 18), (0, .ref 117), (1, .int a1), (2, .int a2), (3, .int a3), (4, .int a4), (5, .int a5)]) (st2 := [.int 19, .ref 117]) jF_212_114 rfl rfl) ?_
    refine Eq.trans (jr_pf jF_212_115 (rfl) rfl) ?_
    refine Eq.trans (jr_s (pc2 := 121) (lv2 := [(6, .int 19), (7, .int a5), (0, .ref 117), (1, .int a1), (2, .int a2), (3, .int a3), (4, .int a4), (5, .int a5)]) (st2 := []) jF_212_118 rfl rfl) ?_
    refine Eq.trans (jr_s (pc2 := 28) (lv2 := [(6, .int 19), (7, .int a5), (0, .ref 117), (1, .int a1), (2, .int a2), (3, .int a3), (4, .int a4), (5, .int a5)]) (st2 := []) jF_212_121 rfl rfl) ?_
    refine Eq.trans (jr_s (pc2 := 30) (lv2 := [(6, .int 19), (7, .int a5), (0, .ref 117), (1, .int a1), (2, .int a2), (3, .int a3), (4, .int a4), (5, .int a5)]) (st2 := [.int 19]) jF_212_28 rfl rfl) ?_
    refine Eq.trans (jr_s (pc2 := 32) (lv2 := [(6, .int 19), (7, .int a5), (0, .ref 117), (1, .int a1), (2, .int a2), (3, .int a3), (4, .int a4), (5, .int a5)]) (st2 := [.int 20, .int 19]) jF_212_30 rfl rfl) ?_
    refine Eq.trans (jr_ic0 jF_212_32 (by decide +kernel)) ?_
    refine Eq.trans (jr_s (pc2 := 37) (lv2 := [(6, .int 19), (7, .int a5), (0, .ref 117), (1, .int a1), (2, .int a2), (3, .int a3), (4, .int a4), (5, .int a5)]) (st2 := [.int 19]) jF_212_35 rfl rfl) ?_
    refine Eq.trans (jr_s (pc2 := 38) (lv2 := [(6, .int 19), (7, .int a5), (0, .ref 117), (1, .int a1), (2, .int a2), (3, .int a3), (4, .int a4), (5, .int a5)]) (st2 := [.int 4, .int 19]) jF_212_37 rfl rfl) ?_
    refine Eq.trans (jr_ic1 jF_212_38 (by decide +kernel)) ?_
    refine Eq.trans (jr_s (pc2 := 47) (lv2 := [(6, .int 19), (7, .int a5), (0, .ref 117), (1, .int a1), (2, .int a2), (3, .int a3), (4, .int a4), (5, .int a5)]) (st2 := [.int 19]) jF_212_45 rfl rfl) ?_
    refine Eq.trans (jr_s (pc2 := 49) (lv2 := [(6, .int 19), (7, .int a5), (0, .ref 117), (1, .int a1), (2, .int a2), (3, .int a3), (4, .int a4), (5, .int a5)]) (st2 := [.int 8, .int 19]) jF_212_47 rfl rfl) ?_
    refine Eq.trans (jr_ic1 jF_212_49 (by decide +kernel)) ?_
    refine Eq.trans (jr_s (pc2 := 58) (lv2 := [(6, .int 19), (7, .int a5), (0, .ref 117), (1, .int a1), (2, .int a2), (3, .int a3), (4, .int a4), (5, .int a5)]) (st2 := [.int 19]) jF_212_56 rfl rfl) ?_
    refine Eq.trans (jr_s (pc2 := 60) (lv2 := [(6, .int 19), (7, .int a5), (0, .ref 117), (1, .int a1), (2, .int a2), (3, .int a3), (4, .int a4), (5, .int a5)]) (st2 := [.int 12, .int 19]) jF_212_58 rfl rfl) ?_
    refine Eq.trans (jr_ic1 jF_212_60 (by decide +kernel)) ?_
    refine Eq.trans (jr_s (pc2 := 69) (lv2 := [(6, .int 19), (7, .int a5), (0, .ref 117), (1, .int a1), (2, .int a2), (3, .int a3), (4, .int a4), (5, .int a5)]) (st2 := [.int 19]) jF_212_67 rfl rfl) ?_
    refine Eq.trans (jr_s (pc2 := 71) (lv2 := [(6, .int 19), (7, .int a5), (0, .ref 117), (1, .int a1), (2, .int a2), (3, .int a3), (4, .int a4), (5, .int a5)]) (st2 := [.int 16, .int 19]) jF_212_69 rfl rfl) ?_
    refine Eq.trans (jr_ic1 jF_212_71 (by decide +kernel)) ?_
    refine Eq.trans (jr_s (pc2 := 81) (lv2 := [(6, .int 19), (7, .int a5), (0, .ref 117), (1, .int a1), (2, .int a2), (3, .int a3), (4, .int a4), (5, .int a5)]) (st2 := [.int a5]) jF_212_79 rfl rfl) ?_
    refine Eq.trans (jr_s (pc2 := 83) (lv2 := [(7, .int a5), (6, .int 19), (0, .ref 117), (1, .int a1), (2, .int a2), (3, .int a3), (4, .int a4), (5, .int a5)]) (st2 := []) jF_212_81 rfl rfl) ?_
    refine Eq.trans (jr_s (pc2 := 84) (lv2 := [(7, .int a5), (6, .int 19), (0, .ref 117), (1, .int a1), (2, .int a2), (3, .int a3), (4, .int a4), (5, .int a5)]) (st2 := [.ref 117]) jF_212_83 rfl rfl) ?_
    refine Eq.trans (jr_gf (v := .ref 118) jF_212_84 (rfl)) ?_
    refine Eq.trans (jr_s (pc2 := 88) (lv2 := [(7, .int a5), (6, .int 19), (0, .ref 117), (1, .int a1), (2, .int a2), (3, .int a3), (4, .int a4), (5, .int a5)]) (st2 := [.ref 117, .ref 118]) jF_212_87 rfl rfl) ?_
    refine Eq.trans (jr_gf (v := .int 19) jF_212_88 (rfl)) ?_
    refine Eq.trans (jr_s (pc2 := 93) (lv2 := [(7, .int a5), (6, .int 19), (0, .ref 117), (1, .int a1), (2, .int a2), (3, .int a3), (4, .int a4), (5, .int a5)]) (st2 := [.int a5, .int 19, .ref 118]) jF_212_91 rfl rfl) ?_
    refine Eq.trans (jr_s (pc2 := 95) (lv2 := [(7, .int a5), (6, .int 19), (0, .ref 117), (1, .int a1), (2, .int a2), (3, .int a3), (4, .int a4), (5, .int a5)]) (st2 := [.int 8, .int a5, .int 19, .ref 118]) jF_212_93 rfl rfl) ?_
    refine Eq.trans (jr_s (pc2 := 96) (lv2 := [(7, .int a5), (6, .int 19), (0, .ref 117), (1, .int a1), (2, .int a2), (3, .int a3), (4, .int a4), (5, .int a5)]) (st2 := [.int 3, .int 8, .int a5, .int 19, .ref 118]) jF_212_95 rfl rfl) ?_
    refine Eq.trans (jr_s (pc2 := 98) (lv2 := [(7, .int a5), (6, .int 19), (0, .ref 117), (1, .int a1), (2, .int a2), (3, .int a3), (4, .int a4), (5, .int a5)]) (st2 := [.int 19, .int 3, .int 8, .int a5, .int 19, .ref 118]) jF_212_96 rfl rfl) ?_
    refine Eq.trans (jr_s (pc2 := 99) (lv2 := [(7, .int a5), (6, .int 19), (0, .ref 117), (1, .int a1), (2, .int a2), (3, .int a3), (4, .int a4), (5, .int a5)]) (st2 := [.int 4, .int 19, .int 3, .int 8, .int a5, .int 19, .ref 118]) jF_212_98 rfl rfl) ?_
    refine Eq.trans (jr_s (pc2 := 100) (lv2 := [(7, .int a5), (6, .int 19), (0, .ref 117), (1, .int a1), (2, .int a2), (3, .int a3), (4, .int a4), (5, .int a5)]) (st2 := [.int 3, .int 3, .int 8, .int a5, .int 19, .ref 118]) jF_212_99 rfl rfl) ?_
    refine Eq.trans (jr_s (pc2 := 101) (lv2 := [(7, .int a5), (6, .int 19), (0, .ref 117), (1, .int a1), (2, .int a2), (3, .int a3), (4, .int a4), (5, .int a5)]) (st2 := [.int 0, .int 8, .int a5, .int 19, .ref 118]) jF_212_100 rfl rfl) ?_
    refine Eq.trans (jr_s (pc2 := 102) (lv2 := [(7, .int a5), (6, .int 19), (0, .ref 117), (1, .int a1), (2, .int a2), (3, .int a3), (4, .int a4), (5, .int a5)]) (st2 := [.int 0, .int a5, .int 19, .ref 118]) jF_212_101 rfl rfl) ?_
    refine Eq.trans (jr_s (pc2 := 103) (lv2 := [(7, .int a5), (6, .int 19), (0, .ref 117), (1, .int a1), (2, .int a2), (3, .int a3), (4, .int a4), (5, .int a5)]) (st2 := [.int (a5 >>> ((0 : Int32) &&& 31)), .int 19, .ref 118]) jF_212_102 rfl rfl) ?_
    refine Eq.trans (jr_s (pc2 := 106) (lv2 := [(7, .int a5), (6, .int 19), (0, .ref 117), (1, .int a1), (2, .int a2), (3, .int a3), (4, .int a4), (5, .int a5)]) (st2 := [.int 255, .int (a5 >>> ((0 : Int32) &&& 31)), .int 19, .ref 118]) jF_212_103 rfl rfl) ?_
    refine Eq.trans (jr_s (pc2 := 107) (lv2 := [(7, .int a5), (6, .int 19), (0, .ref 117), (1, .int a1), (2, .int a2), (3, .int a3), (4, .int a4), (5, .int a5)]) (st2 := [.int ((a5 >>> ((0 : Int32) &&& 31)) &&& 255), .int 19, .ref 118]) jF_212_106 rfl rfl) ?_
    refine Eq.trans (jr_sti (q := 19) jF_212_107 (rfl) (by decide +kernel)) ?_
    refine Eq.trans (jr_s (pc2 := 109) (lv2 := [(7, .int a5), (6, .int 19), (0, .ref 117), (1, .int a1), (2, .int a2), (3, .int a3), (4, .int a4), (5, .int a5)]) (st2 := [.ref 117]) jF_212_108 rfl rfl) ?_
    refine Eq.trans (jr_s (pc2 := 110) (lv2 := [(7, .int a5), (6, .int 19), (0, .ref 117), (1, .int a1), (2, .int a2), (3, .int a3), (4, .int a4), (5, .int a5)]) (st2 := [.ref 117, .ref 117]) jF_212_109 rfl rfl) ?_
    refine Eq.trans (jr_gf (v := .int 19) jF_212_110 (rfl)) ?_
    refine Eq.trans (jr_s (pc2 := 114) (lv2 := [(7, .int a5), (6, .int 19), (0, .ref 117), (1, .int a1), (2, .int a2), (3, .int a3), (4, .int a4), (5, .int a5)]) (st2 := [.int 1, .int 19, .ref 117]) jF_212_113 rfl rfl) ?_
    refine Eq.trans (jr_s (pc2 := 115) (lv2 := [(7, .int a5), (6, .int 19), (0, .ref 117), (1, .int a1), (2, .int a2), (3, .int a3), (4, .int a4), (5, .int a5)]) (st2 := [.int 20, .ref 117]) jF_212_114 rfl rfl) ?_
    refine Eq.trans (jr_pf jF_212_115 (rfl) rfl) ?_
    refine Eq.trans (jr_s (pc2 := 121) (lv2 := [(6, .int 20), (7, .int a5), (0, .ref 117), (1, .int a1), (2, .int a2), (3, .int a3), (4, .int a4), (5, .int a5)]) (st2 := []) jF_212_118 rfl rfl) ?_
    refine Eq.trans (jr_s (pc2 := 28) (lv2 := [(6, .int 20), (7, .int a5), (0, .ref 117), (1, .int a1), (2, .int a2), (3, .int a3), (4, .int a4), (5, .int a5)]) (st2 := []) jF_212_121 rfl rfl) ?_
    refine Eq.trans (jr_s (pc2 := 30) (lv2 := [(6, .int 20), (7, .int a5), (0, .ref 117), (1, .int a1), (2, .int a2), (3, .int a3), (4, .int a4), (5, .int a5)]) (st2 := [.int 20]) jF_212_28 rfl rfl) ?_
    refine Eq.trans (jr_s (pc2 := 32) (lv2 := [(6, .int 20), (7, .int a5), (0, .ref 117), (1, .int a1), (2, .int a2), (3, .int a3), (4, .int a4), (5, .int a5)]) (st2 := [.int 20, .int 20]) jF_212_30 rfl rfl) ?_
    refine Eq.trans (jr_ic1 jF_212_32 (by decide +kernel)) ?_
    refine Eq.trans (jr_s (pc2 := 125) (lv2 := [(6, .int 20), (7, .int a5), (0, .ref 117), (1, .int a1), (2, .int a2), (3, .int a3), (4, .int a4), (5, .int a5)]) (st2 := [.ref 117]) jF_212_124 rfl rfl) ?_
    refine Eq.trans (jr_gf (v := .int 20) jF_212_125 (rfl)) ?_
    exact jr_ri jF_212_128 rfl
