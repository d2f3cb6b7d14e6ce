set_option maxHeartbeats 8000000 in
set_option maxRecDepth 100000 in
theorem pl_brief_0 (n : Nat) : JR (n + 40064) 129 0 (lv_args 0 [.ref 93]) [] (j_hp (JR 25 128 0 (lv_args 0 [.ref 93]) [] (j_hp (JR 305 127 0 (lv_args 0 [.ref 93, .ref 20]) [] (j_stf jh2 93 14 (.int 1)) 0 0 497 19934)) 0 0 497 19934)) 0 0 497 19933 = some (none, (j_stf (j_hp (JR 25 128 0 (lv_args 0 [.ref 93]) [] (j_hp (JR 305 127 0 (lv_args 0 [.ref 93, .ref 20]) [] (j_stf jh2 93 14 (.int 1)) 0 0 497 19934)) 0 0 497 19934)) 93 10 (.int 0)), 0, 0) := by
  refine Eq.trans (jr_s (pc2 := 1) (lv2 := [(0, .ref 93)]) (st2 := [.ref 93]) jF_129_0 rfl rfl) ?_
  refine Eq.trans (jr_gf (v := .ref 97) jF_129_1 (by decide +kernel)) ?_
  refine Eq.trans (jr_s (pc2 := 5) (lv2 := [(0, .ref 93)]) (st2 := [.int 0, .ref 97]) jF_129_4 rfl rfl) ?_
  refine Eq.trans (jr_cS (as := [.ref 97, .int 0]) (rest := []) (v := none) (hp2 := (j_hp (JR 25 128 0 (lv_args 0 [.ref 93]) [] (j_hp (JR 305 127 0 (lv_args 0 [.ref 93, .ref 20]) [] (j_stf jh2 93 14 (.int 1)) 0 0 497 19934)) 0 0 497 19934))) (fr2 := 496) (lo2 := 19910) jF_129_5 rfl (show j_cnd 497 19933 496 19910 4 _ _ = true from rfl) ?_) ?_
  · exact j_fill0 (L := 4095) rfl (by decide +kernel) rfl (by omega)
  refine Eq.trans (jr_s (pc2 := 9) (lv2 := [(0, .ref 93)]) (st2 := [.ref 93]) jF_129_8 rfl rfl) ?_
  refine Eq.trans (jr_s (pc2 := 10) (lv2 := [(0, .ref 93)]) (st2 := [.int 0, .ref 93]) jF_129_9 rfl rfl) ?_
  refine Eq.trans (jr_pf jF_129_10 (by decide +kernel) rfl) ?_
  refine Eq.trans (jr_s (pc2 := 14) (lv2 := [(0, .ref 93)]) (st2 := [.int 0]) jF_129_13 rfl rfl) ?_
  refine Eq.trans (jr_s (pc2 := 15) (lv2 := [(1, .int 0), (0, .ref 93)]) (st2 := []) jF_129_14 rfl rfl) ?_
  refine Eq.trans (jr_s (pc2 := 16) (lv2 := [(1, .int 0), (0, .ref 93)]) (st2 := [.int 0]) jF_129_15 rfl rfl) ?_
  refine Eq.trans (jr_s (pc2 := 17) (lv2 := [(1, .int 0), (0, .ref 93)]) (st2 := [.ref 93, .int 0]) jF_129_16 rfl rfl) ?_
  refine Eq.trans (jr_gf (v := .int 0) jF_129_17 (by decide +kernel)) ?_
  refine Eq.trans (jr_ic1 jF_129_20 (by decide +kernel)) ?_
  exact jr_rr jF_129_111
set_option maxHeartbeats 8000000 in
set_option maxRecDepth 100000 in
theorem pl_brief_1 (n : Nat) : JR (n + 40135) 126 0 (lv_args 0 [.ref 93, .ref 20]) [] jh2 0 0 498 19956 = some (none, (j_hp (JR 25 132 0 (lv_args 0 [.ref 93, .ref 20]) [] (j_stf (j_hp (JR 25 128 0 (lv_args 0 [.ref 93]) [] (j_hp (JR 305 127 0 (lv_args 0 [.ref 93, .ref 20]) [] (j_stf jh2 93 14 (.int 1)) 0 0 497 19934)) 0 0 497 19934)) 93 10 (.int 0)) 0 0 497 19934)), 0, 0) := by
  refine Eq.trans (jr_s (pc2 := 1) (lv2 := [(0, .ref 93), (1, .ref 20)]) (st2 := [.ref 93]) jF_126_0 rfl rfl) ?_
  refine Eq.trans (jr_gf (v := .int 0) jF_126_1 (by decide +kernel)) ?_
  refine Eq.trans (jr_if1 jF_126_4 (by decide +kernel)) ?_
  refine Eq.trans (jr_s (pc2 := 9) (lv2 := [(0, .ref 93), (1, .ref 20)]) (st2 := [.ref 93]) jF_126_8 rfl rfl) ?_
  refine Eq.trans (jr_s (pc2 := 10) (lv2 := [(0, .ref 93), (1, .ref 20)]) (st2 := [.int 1, .ref 93]) jF_126_9 rfl rfl) ?_
  refine Eq.trans (jr_pf jF_126_10 (by decide +kernel) rfl) ?_
  refine Eq.trans (jr_s (pc2 := 14) (lv2 := [(0, .ref 93), (1, .ref 20)]) (st2 := [.ref 93]) jF_126_13 rfl rfl) ?_
  refine Eq.trans (jr_s (pc2 := 15) (lv2 := [(0, .ref 93), (1, .ref 20)]) (st2 := [.ref 20, .ref 93]) jF_126_14 rfl rfl) ?_
  refine Eq.trans (jr_cV (a := 93) (as := [.ref 20]) (rest := []) (v := none) (hp2 := (j_hp (JR 305 127 0 (lv_args 0 [.ref 93, .ref 20]) [] (j_stf jh2 93 14 (.int 1)) 0 0 497 19934))) (fr2 := 497) (lo2 := 19934) jF_126_15 (by decide +kernel) rfl (show j_cnd 498 19956 497 19934 3 _ _ = true from rfl) ?_) ?_
  · exact jr_upl (jr_cl (v := none) (by decide +kernel)) (by omega)
  refine Eq.trans (jr_s (pc2 := 19) (lv2 := [(0, .ref 93), (1, .ref 20)]) (st2 := [.ref 93]) jF_126_18 rfl rfl) ?_
  refine Eq.trans (jr_cV (a := 93) (as := []) (rest := []) (v := none) (hp2 := (j_hp (JR 25 128 0 (lv_args 0 [.ref 93]) [] (j_hp (JR 305 127 0 (lv_args 0 [.ref 93, .ref 20]) [] (j_stf jh2 93 14 (.int 1)) 0 0 497 19934)) 0 0 497 19934))) (fr2 := 497) (lo2 := 19934) jF_126_19 (by decide +kernel) rfl (show j_cnd 498 19956 497 19934 3 _ _ = true from rfl) ?_) ?_
  · exact jr_upl (jr_cl (v := none) (by decide +kernel)) (by omega)
  refine Eq.trans (jr_s (pc2 := 23) (lv2 := [(0, .ref 93), (1, .ref 20)]) (st2 := [.ref 93]) jF_126_22 rfl rfl) ?_
  refine Eq.trans (jr_cV (a := 93) (as := []) (rest := []) (v := none) (hp2 := (j_stf (j_hp (JR 25 128 0 (lv_args 0 [.ref 93]) [] (j_hp (JR 305 127 0 (lv_args 0 [.ref 93, .ref 20]) [] (j_stf jh2 93 14 (.int 1)) 0 0 497 19934)) 0 0 497 19934)) 93 10 (.int 0))) (fr2 := 497) (lo2 := 19933) jF_126_23 (by decide +kernel) rfl (show j_cnd 498 19956 497 19933 4 _ _ = true from rfl) ?_) ?_
  · exact jr_upl (pl_brief_0 0) (by omega)
  refine Eq.trans (jr_s (pc2 := 27) (lv2 := [(0, .ref 93), (1, .ref 20)]) (st2 := [.ref 93]) jF_126_26 rfl rfl) ?_
  refine Eq.trans (jr_s (pc2 := 28) (lv2 := [(0, .ref 93), (1, .ref 20)]) (st2 := [.ref 20, .ref 93]) jF_126_27 rfl rfl) ?_
  refine Eq.trans (jr_cV (a := 93) (as := [.ref 20]) (rest := []) (v := none) (hp2 := (j_hp (JR 25 132 0 (lv_args 0 [.ref 93, .ref 20]) [] (j_stf (j_hp (JR 25 128 0 (lv_args 0 [.ref 93]) [] (j_hp (JR 305 127 0 (lv_args 0 [.ref 93, .ref 20]) [] (j_stf jh2 93 14 (.int 1)) 0 0 497 19934)) 0 0 497 19934)) 93 10 (.int 0)) 0 0 497 19934))) (fr2 := 497) (lo2 := 19934) jF_126_28 (by decide +kernel) rfl (show j_cnd 498 19956 497 19934 3 _ _ = true from rfl) ?_) ?_
  · exact jr_upl (jr_cl (v := none) (by decide +kernel)) (by omega)
  exact jr_rr jF_126_31
set_option maxHeartbeats 8000000 in
set_option maxRecDepth 100000 in
theorem pm_brief (a1 a2 : Int32) : PM 142 298 [.int a1, .int a2] := by
  have ub_a1 := Int32.toInt_lt a1
  have lb_a1 := Int32.le_toInt a1
  have ub_a2 := Int32.toInt_lt a2
  have lb_a2 := Int32.le_toInt a2
  rcases j_ilt a1.toInt 0 with h_a1_0 | h_a1_0
  · refine ⟨60000, 60000, (-1), (j_hp (JR 25 132 0 (lv_args 0 [.ref 93, .ref 20]) [] (j_stf (j_hp (JR 25 128 0 (lv_args 0 [.ref 93]) [] (j_hp (JR 305 127 0 (lv_args 0 [.ref 93, .ref 20]) [] (j_stf jh2 93 14 (.int 1)) 0 0 497 19934)) 0 0 497 19934)) 93 10 (.int 0)) 0 0 497 19934)), (j_hp (JR 25 132 0 (lv_args 0 [.ref 93, .ref 20]) [] (j_stf (j_hp (JR 25 128 0 (lv_args 0 [.ref 93]) [] (j_hp (JR 305 127 0 (lv_args 0 [.ref 93, .ref 20]) [] (j_stf jh2 93 14 (.int 1)) 0 0 497 19934)) 0 0 497 19934)) 93 10 (.int 0)) 0 0 497 19934)), ?_, ?_, by decide +kernel⟩
    · refine Eq.trans (jr_s (pc2 := 1) (lv2 := [(0, .ref 9), (1, .int a1), (2, .int a2)]) (st2 := [.ref 9]) jF_142_0 rfl rfl) ?_
      refine Eq.trans (jr_gf (v := .ref 93) jF_142_1 (by decide +kernel)) ?_
      refine Eq.trans (jr_s (pc2 := 5) (lv2 := [(0, .ref 9), (1, .int a1), (2, .int a2)]) (st2 := [.ref 9, .ref 93]) jF_142_4 rfl rfl) ?_
      refine Eq.trans (jr_gf (v := .ref 20) jF_142_5 (by decide +kernel)) ?_
      refine Eq.trans (jr_s (pc2 := 9) (lv2 := [(0, .ref 9), (1, .int a1), (2, .int a2)]) (st2 := [.int a1, .ref 20, .ref 93]) jF_142_8 rfl rfl) ?_
      refine Eq.trans (jr_s (pc2 := 10) (lv2 := [(0, .ref 9), (1, .int a1), (2, .int a2)]) (st2 := [.int a2, .int a1, .ref 20, .ref 93]) jF_142_9 rfl rfl) ?_
      refine Eq.trans (jr_cV (a := 93) (as := [.ref 20, .int a1, .int a2]) (rest := []) (v := some (.int (-1))) (hp2 := (j_hp (JR 25 132 0 (lv_args 0 [.ref 93, .ref 20]) [] (j_stf (j_hp (JR 25 128 0 (lv_args 0 [.ref 93]) [] (j_hp (JR 305 127 0 (lv_args 0 [.ref 93, .ref 20]) [] (j_stf jh2 93 14 (.int 1)) 0 0 497 19934)) 0 0 497 19934)) 93 10 (.int 0)) 0 0 497 19934))) (fr2 := 499) (lo2 := 19977) jF_142_10 (by decide +kernel) rfl (show j_cnd 500 20000 499 19977 4 _ _ = true from rfl) ?_) ?_
      · refine Eq.trans (jr_s (pc2 := 1) (lv2 := [(0, .ref 93), (1, .ref 20), (2, .int a1), (3, .int a2)]) (st2 := [.ref 93]) jF_143_0 rfl rfl) ?_
        refine Eq.trans (jr_s (pc2 := 2) (lv2 := [(0, .ref 93), (1, .ref 20), (2, .int a1), (3, .int a2)]) (st2 := [.ref 20, .ref 93]) jF_143_1 rfl rfl) ?_
        refine Eq.trans (jr_cV (a := 93) (as := [.ref 20]) (rest := []) (v := none) (hp2 := (j_hp (JR 25 132 0 (lv_args 0 [.ref 93, .ref 20]) [] (j_stf (j_hp (JR 25 128 0 (lv_args 0 [.ref 93]) [] (j_hp (JR 305 127 0 (lv_args 0 [.ref 93, .ref 20]) [] (j_stf jh2 93 14 (.int 1)) 0 0 497 19934)) 0 0 497 19934)) 93 10 (.int 0)) 0 0 497 19934))) (fr2 := 498) (lo2 := 19956) jF_143_2 (by decide +kernel) rfl (show j_cnd 499 19977 498 19956 2 _ _ = true from rfl) ?_) ?_
        · exact jr_upl (pl_brief_1 0) (by omega)
        refine Eq.trans (jr_s (pc2 := 6) (lv2 := [(0, .ref 93), (1, .ref 20), (2, .int a1), (3, .int a2)]) (st2 := [.int a1]) jF_143_5 rfl rfl) ?_
        refine Eq.trans (jr_if1 jF_143_6 (jk_lt_lt (show (a1 : Int32).toInt < (0 : Int32).toInt by rw [show (0 : Int32).toInt = 0 from by decide]; omega))) ?_
        refine Eq.trans (jr_s (pc2 := 18) (lv2 := [(0, .ref 93), (1, .ref 20), (2, .int a1), (3, .int a2)]) (st2 := [.int (-1)]) jF_143_17 rfl rfl) ?_
        exact jr_ri jF_143_18 rfl
      exact jr_ri jF_142_13 rfl
    · refine Eq.trans (jr_s (pc2 := 1) (lv2 := [(0, .ref 117), (1, .int a1), (2, .int a2)]) (st2 := [.int a1]) jF_298_0 rfl rfl) ?_
      refine Eq.trans (jr_s (pc2 := 2) (lv2 := [(0, .ref 117), (1, .int a1), (2, .int a2)]) (st2 := [.long (Int32.toInt64 a1)]) jF_298_1 rfl rfl) ?_
      refine Eq.trans (jr_s (pc2 := 3) (lv2 := [(0, .ref 117), (1, .int a1), (2, .int a2)]) (st2 := [.long 0, .long (Int32.toInt64 a1)]) jF_298_2 rfl rfl) ?_
      refine Eq.trans (jr_s (pc2 := 4) (lv2 := [(0, .ref 117), (1, .int a1), (2, .int a2)]) (st2 := [.ref 117, .long 0, .long (Int32.toInt64 a1)]) jF_298_3 rfl rfl) ?_
      refine Eq.trans (jr_gf (v := .int 0) jF_298_4 (by decide +kernel)) ?_
      refine Eq.trans (jr_s (pc2 := 8) (lv2 := [(0, .ref 117), (1, .int a1), (2, .int a2)]) (st2 := [.int 1, .int 0, .long 0, .long (Int32.toInt64 a1)]) jF_298_7 rfl rfl) ?_
      refine Eq.trans (jr_s (pc2 := 9) (lv2 := [(0, .ref 117), (1, .int a1), (2, .int a2)]) (st2 := [.int (-1), .long 0, .long (Int32.toInt64 a1)]) jF_298_8 rfl rfl) ?_
      refine Eq.trans (jr_s (pc2 := 10) (lv2 := [(0, .ref 117), (1, .int a1), (2, .int a2)]) (st2 := [.long (-1), .long 0, .long (Int32.toInt64 a1)]) jF_298_9 rfl rfl) ?_
      refine Eq.trans (jr_cS (as := [.long (Int32.toInt64 a1), .long 0, .long (-1)]) (rest := []) (v := some (.int 0)) (hp2 := (j_hp (JR 25 132 0 (lv_args 0 [.ref 93, .ref 20]) [] (j_stf (j_hp (JR 25 128 0 (lv_args 0 [.ref 93]) [] (j_hp (JR 305 127 0 (lv_args 0 [.ref 93, .ref 20]) [] (j_stf jh2 93 14 (.int 1)) 0 0 497 19934)) 0 0 497 19934)) 93 10 (.int 0)) 0 0 497 19934))) (fr2 := 499) (lo2 := 19975) jF_298_10 rfl (show j_cnd 500 20000 499 19975 6 _ _ = true from rfl) ?_) ?_
      · refine Eq.trans (jr_s (pc2 := 1) (lv2 := [(0, .long (Int32.toInt64 a1)), (2, .long 0), (4, .long (-1))]) (st2 := [.long (Int32.toInt64 a1)]) jF_232_0 rfl rfl) ?_
        refine Eq.trans (jr_s (pc2 := 2) (lv2 := [(0, .long (Int32.toInt64 a1)), (2, .long 0), (4, .long (-1))]) (st2 := [.long 0, .long (Int32.toInt64 a1)]) jF_232_1 rfl rfl) ?_
        refine Eq.trans (jr_s (pc2 := 3) (lv2 := [(0, .long (Int32.toInt64 a1)), (2, .long 0), (4, .long (-1))]) (st2 := [.int (lg_cmp (Int32.toInt64 a1) 0)]) jF_232_2 rfl rfl) ?_
        refine Eq.trans (jr_if1 jF_232_3 (jkl_lt_lt (show ((Int32.toInt64 a1) : Int64).toInt < (0 : Int64).toInt by rw [Int32.toInt_toInt64, show (0 : Int64).toInt = 0 from by decide]; omega))) ?_
        refine Eq.trans (jr_s (pc2 := 18) (lv2 := [(0, .long (Int32.toInt64 a1)), (2, .long 0), (4, .long (-1))]) (st2 := [.int 0]) jF_232_17 rfl rfl) ?_
        exact jr_ri jF_232_18 rfl
      refine Eq.trans (jr_if0 jF_298_13 (by decide +kernel)) ?_
      refine Eq.trans (jr_s (pc2 := 17) (lv2 := [(0, .ref 117), (1, .int a1), (2, .int a2)]) (st2 := [.int (-1)]) jF_298_16 rfl rfl) ?_
      exact jr_ri jF_298_17 rfl
  · refine ⟨60000, 60000, (-1), (j_hp (JR 25 132 0 (lv_args 0 [.ref 93, .ref 20]) [] (j_stf (j_hp (JR 25 128 0 (lv_args 0 [.ref 93]) [] (j_hp (JR 305 127 0 (lv_args 0 [.ref 93, .ref 20]) [] (j_stf jh2 93 14 (.int 1)) 0 0 497 19934)) 0 0 497 19934)) 93 10 (.int 0)) 0 0 497 19934)), (j_hp (JR 25 132 0 (lv_args 0 [.ref 93, .ref 20]) [] (j_stf (j_hp (JR 25 128 0 (lv_args 0 [.ref 93]) [] (j_hp (JR 305 127 0 (lv_args 0 [.ref 93, .ref 20]) [] (j_stf jh2 93 14 (.int 1)) 0 0 497 19934)) 0 0 497 19934)) 93 10 (.int 0)) 0 0 497 19934)), ?_, ?_, by decide +kernel⟩
    · refine Eq.trans (jr_s (pc2 := 1) (lv2 := [(0, .ref 9), (1, .int a1), (2, .int a2)]) (st2 := [.ref 9]) jF_142_0 rfl rfl) ?_
      refine Eq.trans (jr_gf (v := .ref 93) jF_142_1 (by decide +kernel)) ?_
      refine Eq.trans (jr_s (pc2 := 5) (lv2 := [(0, .ref 9), (1, .int a1), (2, .int a2)]) (st2 := [.ref 9, .ref 93]) jF_142_4 rfl rfl) ?_
      refine Eq.trans (jr_gf (v := .ref 20) jF_142_5 (by decide +kernel)) ?_
      refine Eq.trans (jr_s (pc2 := 9) (lv2 := [(0, .ref 9), (1, .int a1), (2, .int a2)]) (st2 := [.int a1, .ref 20, .ref 93]) jF_142_8 rfl rfl) ?_
      refine Eq.trans (jr_s (pc2 := 10) (lv2 := [(0, .ref 9), (1, .int a1), (2, .int a2)]) (st2 := [.int a2, .int a1, .ref 20, .ref 93]) jF_142_9 rfl rfl) ?_
      refine Eq.trans (jr_cV (a := 93) (as := [.ref 20, .int a1, .int a2]) (rest := []) (v := some (.int (-1))) (hp2 := (j_hp (JR 25 132 0 (lv_args 0 [.ref 93, .ref 20]) [] (j_stf (j_hp (JR 25 128 0 (lv_args 0 [.ref 93]) [] (j_hp (JR 305 127 0 (lv_args 0 [.ref 93, .ref 20]) [] (j_stf jh2 93 14 (.int 1)) 0 0 497 19934)) 0 0 497 19934)) 93 10 (.int 0)) 0 0 497 19934))) (fr2 := 499) (lo2 := 19977) jF_142_10 (by decide +kernel) rfl (show j_cnd 500 20000 499 19977 4 _ _ = true from rfl) ?_) ?_
      · refine Eq.trans (jr_s (pc2 := 1) (lv2 := [(0, .ref 93), (1, .ref 20), (2, .int a1), (3, .int a2)]) (st2 := [.ref 93]) jF_143_0 rfl rfl) ?_
        refine Eq.trans (jr_s (pc2 := 2) (lv2 := [(0, .ref 93), (1, .ref 20), (2, .int a1), (3, .int a2)]) (st2 := [.ref 20, .ref 93]) jF_143_1 rfl rfl) ?_
        refine Eq.trans (jr_cV (a := 93) (as := [.ref 20]) (rest := []) (v := none) (hp2 := (j_hp (JR 25 132 0 (lv_args 0 [.ref 93, .ref 20]) [] (j_stf (j_hp (JR 25 128 0 (lv_args 0 [.ref 93]) [] (j_hp (JR 305 127 0 (lv_args 0 [.ref 93, .ref 20]) [] (j_stf jh2 93 14 (.int 1)) 0 0 497 19934)) 0 0 497 19934)) 93 10 (.int 0)) 0 0 497 19934))) (fr2 := 498) (lo2 := 19956) jF_143_2 (by decide +kernel) rfl (show j_cnd 499 19977 498 19956 2 _ _ = true from rfl) ?_) ?_
        · exact jr_upl (pl_brief_1 0) (by omega)
        refine Eq.trans (jr_s (pc2 := 6) (lv2 := [(0, .ref 93), (1, .ref 20), (2, .int a1), (3, .int a2)]) (st2 := [.int a1]) jF_143_5 rfl rfl) ?_
        refine Eq.trans (jr_if0 jF_143_6 (jk_lt_ge (show (0 : Int32).toInt ≤ (a1 : Int32).toInt by rw [show (0 : Int32).toInt = 0 from by decide]; omega))) ?_
        refine Eq.trans (jr_s (pc2 := 10) (lv2 := [(0, .ref 93), (1, .ref 20), (2, .int a1), (3, .int a2)]) (st2 := [.int a1]) jF_143_9 rfl rfl) ?_
        refine Eq.trans (jr_s (pc2 := 11) (lv2 := [(0, .ref 93), (1, .ref 20), (2, .int a1), (3, .int a2)]) (st2 := [.ref 93, .int a1]) jF_143_10 rfl rfl) ?_
        refine Eq.trans (jr_gf (v := .int 0) jF_143_11 (by decide +kernel)) ?_
        refine Eq.trans (jr_ic0 jF_143_14 (jk_lt_ge (show (0 : Int32).toInt ≤ (a1 : Int32).toInt by rw [show (0 : Int32).toInt = 0 from by decide]; omega))) ?_
        refine Eq.trans (jr_s (pc2 := 18) (lv2 := [(0, .ref 93), (1, .ref 20), (2, .int a1), (3, .int a2)]) (st2 := [.int (-1)]) jF_143_17 rfl rfl) ?_
        exact jr_ri jF_143_18 rfl
      exact jr_ri jF_142_13 rfl
    · refine Eq.trans (jr_s (pc2 := 1) (lv2 := [(0, .ref 117), (1, .int a1), (2, .int a2)]) (st2 := [.int a1]) jF_298_0 rfl rfl) ?_
      refine Eq.trans (jr_s (pc2 := 2) (lv2 := [(0, .ref 117), (1, .int a1), (2, .int a2)]) (st2 := [.long (Int32.toInt64 a1)]) jF_298_1 rfl rfl) ?_
      refine Eq.trans (jr_s (pc2 := 3) (lv2 := [(0, .ref 117), (1, .int a1), (2, .int a2)]) (st2 := [.long 0, .long (Int32.toInt64 a1)]) jF_298_2 rfl rfl) ?_
      refine Eq.trans (jr_s (pc2 := 4) (lv2 := [(0, .ref 117), (1, .int a1), (2, .int a2)]) (st2 := [.ref 117, .long 0, .long (Int32.toInt64 a1)]) jF_298_3 rfl rfl) ?_
      refine Eq.trans (jr_gf (v := .int 0) jF_298_4 (by decide +kernel)) ?_
      refine Eq.trans (jr_s (pc2 := 8) (lv2 := [(0, .ref 117), (1, .int a1), (2, .int a2)]) (st2 := [.int 1, .int 0, .long 0, .long (Int32.toInt64 a1)]) jF_298_7 rfl rfl) ?_
      refine Eq.trans (jr_s (pc2 := 9) (lv2 := [(0, .ref 117), (1, .int a1), (2, .int a2)]) (st2 := [.int (-1), .long 0, .long (Int32.toInt64 a1)]) jF_298_8 rfl rfl) ?_
      refine Eq.trans (jr_s (pc2 := 10) (lv2 := [(0, .ref 117), (1, .int a1), (2, .int a2)]) (st2 := [.long (-1), .long 0, .long (Int32.toInt64 a1)]) jF_298_9 rfl rfl) ?_
      refine Eq.trans (jr_cS (as := [.long (Int32.toInt64 a1), .long 0, .long (-1)]) (rest := []) (v := some (.int 0)) (hp2 := (j_hp (JR 25 132 0 (lv_args 0 [.ref 93, .ref 20]) [] (j_stf (j_hp (JR 25 128 0 (lv_args 0 [.ref 93]) [] (j_hp (JR 305 127 0 (lv_args 0 [.ref 93, .ref 20]) [] (j_stf jh2 93 14 (.int 1)) 0 0 497 19934)) 0 0 497 19934)) 93 10 (.int 0)) 0 0 497 19934))) (fr2 := 499) (lo2 := 19975) jF_298_10 rfl (show j_cnd 500 20000 499 19975 6 _ _ = true from rfl) ?_) ?_
      · refine Eq.trans (jr_s (pc2 := 1) (lv2 := [(0, .long (Int32.toInt64 a1)), (2, .long 0), (4, .long (-1))]) (st2 := [.long (Int32.toInt64 a1)]) jF_232_0 rfl rfl) ?_
        refine Eq.trans (jr_s (pc2 := 2) (lv2 := [(0, .long (Int32.toInt64 a1)), (2, .long 0), (4, .long (-1))]) (st2 := [.long 0, .long (Int32.toInt64 a1)]) jF_232_1 rfl rfl) ?_
        refine Eq.trans (jr_s (pc2 := 3) (lv2 := [(0, .long (Int32.toInt64 a1)), (2, .long 0), (4, .long (-1))]) (st2 := [.int (lg_cmp (Int32.toInt64 a1) 0)]) jF_232_2 rfl rfl) ?_
        refine Eq.trans (jr_if0 jF_232_3 (jkl_lt_ge (show (0 : Int64).toInt ≤ ((Int32.toInt64 a1) : Int64).toInt by rw [Int32.toInt_toInt64, show (0 : Int64).toInt = 0 from by decide]; omega))) ?_
        refine Eq.trans (jr_s (pc2 := 7) (lv2 := [(0, .long (Int32.toInt64 a1)), (2, .long 0), (4, .long (-1))]) (st2 := [.long (Int32.toInt64 a1)]) jF_232_6 rfl rfl) ?_
        refine Eq.trans (jr_s (pc2 := 9) (lv2 := [(0, .long (Int32.toInt64 a1)), (2, .long 0), (4, .long (-1))]) (st2 := [.long (-1), .long (Int32.toInt64 a1)]) jF_232_7 rfl rfl) ?_
        refine Eq.trans (jr_s (pc2 := 10) (lv2 := [(0, .long (Int32.toInt64 a1)), (2, .long 0), (4, .long (-1))]) (st2 := [.int (lg_cmp (Int32.toInt64 a1) (-1))]) jF_232_9 rfl rfl) ?_
        refine Eq.trans (jr_if1 jF_232_10 (jkl_gt_gt (show ((-1) : Int64).toInt < ((Int32.toInt64 a1) : Int64).toInt by rw [Int32.toInt_toInt64, show ((-1) : Int64).toInt = (-1) from by decide]; omega))) ?_
        refine Eq.trans (jr_s (pc2 := 18) (lv2 := [(0, .long (Int32.toInt64 a1)), (2, .long 0), (4, .long (-1))]) (st2 := [.int 0]) jF_232_17 rfl rfl) ?_
        exact jr_ri jF_232_18 rfl
      refine Eq.trans (jr_if0 jF_298_13 (by decide +kernel)) ?_
      refine Eq.trans (jr_s (pc2 := 17) (lv2 := [(0, .ref 117), (1, .int a1), (2, .int a2)]) (st2 := [.int (-1)]) jF_298_16 rfl rfl) ?_
      exact jr_ri jF_298_17 rfl
