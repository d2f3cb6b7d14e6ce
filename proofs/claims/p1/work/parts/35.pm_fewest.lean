set_option maxHeartbeats 8000000 in
set_option maxRecDepth 100000 in
theorem pl_fewest_0 (n : Nat) : JR (n + 40064) 129 0 (lv_args 0 [.ref 93]) [] (j_hp (JR 25 128 0 (lv_args 0 [.ref 93]) [] (j_hp (JR 305 127 0 (lv_args 0 [.ref 93, .ref 20]) [] (j_stf jh2 93 14 (.int 1)) 0 0 497 19931)) 0 0 497 19931)) 0 0 497 19930 = some (none, (j_stf (j_hp (JR 25 128 0 (lv_args 0 [.ref 93]) [] (j_hp (JR 305 127 0 (lv_args 0 [.ref 93, .ref 20]) [] (j_stf jh2 93 14 (.int 1)) 0 0 497 19931)) 0 0 497 19931)) 93 10 (.int 0)), 0, 0) := by
  refine Eq.trans (jr_s (pc2 := 1) (lv2 := [(0, .ref 93)]) (st2 := [.ref 93]) jF_129_0 rfl rfl) ?_
  refine Eq.trans (jr_gf (v := .ref 97) jF_129_1 (by decide +kernel)) ?_
  refine Eq.trans (jr_s (pc2 := 5) (lv2 := [(0, .ref 93)]) (st2 := [.int 0, .ref 97]) jF_129_4 rfl rfl) ?_
  refine Eq.trans (jr_cS (as := [.ref 97, .int 0]) (rest := []) (v := none) (hp2 := (j_hp (JR 25 128 0 (lv_args 0 [.ref 93]) [] (j_hp (JR 305 127 0 (lv_args 0 [.ref 93, .ref 20]) [] (j_stf jh2 93 14 (.int 1)) 0 0 497 19931)) 0 0 497 19931))) (fr2 := 496) (lo2 := 19907) jF_129_5 rfl (show j_cnd 497 19930 496 19907 4 _ _ = true from rfl) ?_) ?_
  · exact j_fill0 (L := 4095) rfl (by decide +kernel) rfl (by omega)
  refine Eq.trans (jr_s (pc2 := 9) (lv2 := [(0, .ref 93)]) (st2 := [.ref 93]) jF_129_8 rfl rfl) ?_
  refine Eq.trans (jr_s (pc2 := 10) (lv2 := [(0, .ref 93)]) (st2 := [.int 0, .ref 93]) jF_129_9 rfl rfl) ?_
  refine Eq.trans (jr_pf jF_129_10 (by decide +kernel) rfl) ?_
  refine Eq.trans (jr_s (pc2 := 14) (lv2 := [(0, .ref 93)]) (st2 := [.int 0]) jF_129_13 rfl rfl) ?_
  refine Eq.trans (jr_s (pc2 := 15) (lv2 := [(1, .int 0), (0, .ref 93)]) (st2 := []) jF_129_14 rfl rfl) ?_
  refine Eq.trans (jr_s (pc2 := 16) (lv2 := [(1, .int 0), (0, .ref 93)]) (st2 := [.int 0]) jF_129_15 rfl rfl) ?_
  refine Eq.trans (jr_s (pc2 := 17) (lv2 := [(1, .int 0), (0, .ref 93)]) (st2 := [.ref 93, .int 0]) jF_129_16 rfl rfl) ?_
  refine Eq.trans (jr_gf (v := .int 0) jF_129_17 (by decide +kernel)) ?_
  refine Eq.trans (jr_ic1 jF_129_20 (by decide +kernel)) ?_
  exact jr_rr jF_129_111
set_option maxHeartbeats 8000000 in
set_option maxRecDepth 100000 in
theorem pl_fewest_1 (n : Nat) : JR (n + 40135) 126 0 (lv_args 0 [.ref 93, .ref 20]) [] jh2 0 0 498 19953 = some (none, (j_hp (JR 25 132 0 (lv_args 0 [.ref 93, .ref 20]) [] (j_stf (j_hp (JR 25 128 0 (lv_args 0 [.ref 93]) [] (j_hp (JR 305 127 0 (lv_args 0 [.ref 93, .ref 20]) [] (j_stf jh2 93 14 (.int 1)) 0 0 497 19931)) 0 0 497 19931)) 93 10 (.int 0)) 0 0 497 19931)), 0, 0) := by
  refine Eq.trans (jr_s (pc2 := 1) (lv2 := [(0, .ref 93), (1, .ref 20)]) (st2 := [.ref 93]) jF_126_0 rfl rfl) ?_
  refine Eq.trans (jr_gf (v := .int 0) jF_126_1 (by decide +kernel)) ?_
  refine Eq.trans (jr_if1 jF_126_4 (by decide +kernel)) ?_
  refine Eq.trans (jr_s (pc2 := 9) (lv2 := [(0, .ref 93), (1, .ref 20)]) (st2 := [.ref 93]) jF_126_8 rfl rfl) ?_
  refine Eq.trans (jr_s (pc2 := 10) (lv2 := [(0, .ref 93), (1, .ref 20)]) (st2 := [.int 1, .ref 93]) jF_126_9 rfl rfl) ?_
  refine Eq.trans (jr_pf jF_126_10 (by decide +kernel) rfl) ?_
  refine Eq.trans (jr_s (pc2 := 14) (lv2 := [(0, .ref 93), (1, .ref 20)]) (st2 := [.ref 93]) jF_126_13 rfl rfl) ?_
  refine Eq.trans (jr_s (pc2 := 15) (lv2 := [(0, .ref 93), (1, .ref 20)]) (st2 := [.ref 20, .ref 93]) jF_126_14 rfl rfl) ?_
  refine Eq.trans (jr_cV (a := 93) (as := [.ref 20]) (rest := []) (v := none) (hp2 := (j_hp (JR 305 127 0 (lv_args 0 [.ref 93, .ref 20]) [] (j_stf jh2 93 14 (.int 1)) 0 0 497 19931))) (fr2 := 497) (lo2 := 19931) jF_126_15 (by decide +kernel) rfl (show j_cnd 498 19953 497 19931 3 _ _ = true from rfl) ?_) ?_
  · exact jr_upl (jr_cl (v := none) (by decide +kernel)) (by omega)
  refine Eq.trans (jr_s (pc2 := 19) (lv2 := [(0, .ref 93), (1, .ref 20)]) (st2 := [.ref 93]) jF_126_18 rfl rfl) ?_
  refine Eq.trans (jr_cV (a := 93) (as := []) (rest := []) (v := none) (hp2 := (j_hp (JR 25 128 0 (lv_args 0 [.ref 93]) [] (j_hp (JR 305 127 0 (lv_args 0 [.ref 93, .ref 20]) [] (j_stf jh2 93 14 (.int 1)) 0 0 497 19931)) 0 0 497 19931))) (fr2 := 497) (lo2 := 19931) jF_126_19 (by decide +kernel) rfl (show j_cnd 498 19953 497 19931 3 _ _ = true from rfl) ?_) ?_
  · exact jr_upl (jr_cl (v := none) (by decide +kernel)) (by omega)
  refine Eq.trans (jr_s (pc2 := 23) (lv2 := [(0, .ref 93), (1, .ref 20)]) (st2 := [.ref 93]) jF_126_22 rfl rfl) ?_
  refine Eq.trans (jr_cV (a := 93) (as := []) (rest := []) (v := none) (hp2 := (j_stf (j_hp (JR 25 128 0 (lv_args 0 [.ref 93]) [] (j_hp (JR 305 127 0 (lv_args 0 [.ref 93, .ref 20]) [] (j_stf jh2 93 14 (.int 1)) 0 0 497 19931)) 0 0 497 19931)) 93 10 (.int 0))) (fr2 := 497) (lo2 := 19930) jF_126_23 (by decide +kernel) rfl (show j_cnd 498 19953 497 19930 4 _ _ = true from rfl) ?_) ?_
  · exact jr_upl (pl_fewest_0 0) (by omega)
  refine Eq.trans (jr_s (pc2 := 27) (lv2 := [(0, .ref 93), (1, .ref 20)]) (st2 := [.ref 93]) jF_126_26 rfl rfl) ?_
  refine Eq.trans (jr_s (pc2 := 28) (lv2 := [(0, .ref 93), (1, .ref 20)]) (st2 := [.ref 20, .ref 93]) jF_126_27 rfl rfl) ?_
  refine Eq.trans (jr_cV (a := 93) (as := [.ref 20]) (rest := []) (v := none) (hp2 := (j_hp (JR 25 132 0 (lv_args 0 [.ref 93, .ref 20]) [] (j_stf (j_hp (JR 25 128 0 (lv_args 0 [.ref 93]) [] (j_hp (JR 305 127 0 (lv_args 0 [.ref 93, .ref 20]) [] (j_stf jh2 93 14 (.int 1)) 0 0 497 19931)) 0 0 497 19931)) 93 10 (.int 0)) 0 0 497 19931))) (fr2 := 497) (lo2 := 19931) jF_126_28 (by decide +kernel) rfl (show j_cnd 498 19953 497 19931 3 _ _ = true from rfl) ?_) ?_
  · exact jr_upl (jr_cl (v := none) (by decide +kernel)) (by omega)
  exact jr_rr jF_126_31
set_option maxHeartbeats 8000000 in
set_option maxRecDepth 100000 in
theorem pl_fewest_2 (n : Nat) : JR (n + 40232) 125 0 (lv_args 0 [.ref 93, .ref 20, .long 0, .int 0, .int 0]) [] jh2 0 0 499 19974 = some (some (.int 0), (j_stf (j_stf (j_hp (JR 47 133 0 (lv_args 0 [.ref 93, .long 0, .int 0]) [] (j_hp (JR 25 132 0 (lv_args 0 [.ref 93, .ref 20]) [] (j_stf (j_hp (JR 25 128 0 (lv_args 0 [.ref 93]) [] (j_hp (JR 305 127 0 (lv_args 0 [.ref 93, .ref 20]) [] (j_stf jh2 93 14 (.int 1)) 0 0 497 19931)) 0 0 497 19931)) 93 10 (.int 0)) 0 0 497 19931)) 0 0 498 19950)) 99 0 (.long 0)) 100 0 (.int 1)), 0, 0) := by
  refine Eq.trans (jr_s (pc2 := 2) (lv2 := [(0, .ref 93), (1, .ref 20), (2, .long 0), (4, .int 0), (5, .int 0)]) (st2 := [.int 0]) jF_125_0 rfl rfl) ?_
  refine Eq.trans (jr_if0 jF_125_2 (by decide +kernel)) ?_
  refine Eq.trans (jr_s (pc2 := 7) (lv2 := [(0, .ref 93), (1, .ref 20), (2, .long 0), (4, .int 0), (5, .int 0)]) (st2 := [.int 0]) jF_125_5 rfl rfl) ?_
  refine Eq.trans (jr_s (pc2 := 8) (lv2 := [(0, .ref 93), (1, .ref 20), (2, .long 0), (4, .int 0), (5, .int 0)]) (st2 := [.int 4, .int 0]) jF_125_7 rfl rfl) ?_
  refine Eq.trans (jr_ic0 jF_125_8 (by decide +kernel)) ?_
  refine Eq.trans (jr_s (pc2 := 13) (lv2 := [(0, .ref 93), (1, .ref 20), (2, .long 0), (4, .int 0), (5, .int 0)]) (st2 := [.int 0]) jF_125_11 rfl rfl) ?_
  refine Eq.trans (jr_if0 jF_125_13 (by decide +kernel)) ?_
  refine Eq.trans (jr_s (pc2 := 18) (lv2 := [(0, .ref 93), (1, .ref 20), (2, .long 0), (4, .int 0), (5, .int 0)]) (st2 := [.int 0]) jF_125_16 rfl rfl) ?_
  refine Eq.trans (jr_s (pc2 := 19) (lv2 := [(0, .ref 93), (1, .ref 20), (2, .long 0), (4, .int 0), (5, .int 0)]) (st2 := [.ref 93, .int 0]) jF_125_18 rfl rfl) ?_
  refine Eq.trans (jr_gf (v := .ref 99) jF_125_19 (by decide +kernel)) ?_
  refine Eq.trans (jr_al (v := 2) jF_125_22 (by decide +kernel)) ?_
  refine Eq.trans (jr_ic1 jF_125_23 (by decide +kernel)) ?_
  refine Eq.trans (jr_s (pc2 := 30) (lv2 := [(0, .ref 93), (1, .ref 20), (2, .long 0), (4, .int 0), (5, .int 0)]) (st2 := [.int 0]) jF_125_28 rfl rfl) ?_
  refine Eq.trans (jr_s (pc2 := 31) (lv2 := [(0, .ref 93), (1, .ref 20), (2, .long 0), (4, .int 0), (5, .int 0)]) (st2 := [.int 4, .int 0]) jF_125_30 rfl rfl) ?_
  refine Eq.trans (jr_s (pc2 := 32) (lv2 := [(0, .ref 93), (1, .ref 20), (2, .long 0), (4, .int 0), (5, .int 0)]) (st2 := [.int 0]) jF_125_31 rfl rfl) ?_
  refine Eq.trans (jr_s (pc2 := 34) (lv2 := [(6, .int 0), (0, .ref 93), (1, .ref 20), (2, .long 0), (4, .int 0), (5, .int 0)]) (st2 := []) jF_125_32 rfl rfl) ?_
  refine Eq.trans (jr_s (pc2 := 35) (lv2 := [(6, .int 0), (0, .ref 93), (1, .ref 20), (2, .long 0), (4, .int 0), (5, .int 0)]) (st2 := [.ref 93]) jF_125_34 rfl rfl) ?_
  refine Eq.trans (jr_gf (v := .ref 100) jF_125_35 (by decide +kernel)) ?_
  refine Eq.trans (jr_s (pc2 := 40) (lv2 := [(6, .int 0), (0, .ref 93), (1, .ref 20), (2, .long 0), (4, .int 0), (5, .int 0)]) (st2 := [.int 0, .ref 100]) jF_125_38 rfl rfl) ?_
  refine Eq.trans (jr_ldb (v := .int 0) jF_125_40 (by decide +kernel)) ?_
  refine Eq.trans (jr_if1 jF_125_41 (by decide +kernel)) ?_
  refine Eq.trans (jr_s (pc2 := 57) (lv2 := [(6, .int 0), (0, .ref 93), (1, .ref 20), (2, .long 0), (4, .int 0), (5, .int 0)]) (st2 := [.ref 93]) jF_125_56 rfl rfl) ?_
  refine Eq.trans (jr_s (pc2 := 58) (lv2 := [(6, .int 0), (0, .ref 93), (1, .ref 20), (2, .long 0), (4, .int 0), (5, .int 0)]) (st2 := [.ref 20, .ref 93]) jF_125_57 rfl rfl) ?_
  refine Eq.trans (jr_cV (a := 93) (as := [.ref 20]) (rest := []) (v := none) (hp2 := (j_hp (JR 25 132 0 (lv_args 0 [.ref 93, .ref 20]) [] (j_stf (j_hp (JR 25 128 0 (lv_args 0 [.ref 93]) [] (j_hp (JR 305 127 0 (lv_args 0 [.ref 93, .ref 20]) [] (j_stf jh2 93 14 (.int 1)) 0 0 497 19931)) 0 0 497 19931)) 93 10 (.int 0)) 0 0 497 19931))) (fr2 := 498) (lo2 := 19953) jF_125_58 (by decide +kernel) rfl (show j_cnd 499 19974 498 19953 2 _ _ = true from rfl) ?_) ?_
  · exact jr_upl (pl_fewest_1 0) (by omega)
  refine Eq.trans (jr_s (pc2 := 62) (lv2 := [(6, .int 0), (0, .ref 93), (1, .ref 20), (2, .long 0), (4, .int 0), (5, .int 0)]) (st2 := [.ref 93]) jF_125_61 rfl rfl) ?_
  refine Eq.trans (jr_s (pc2 := 63) (lv2 := [(6, .int 0), (0, .ref 93), (1, .ref 20), (2, .long 0), (4, .int 0), (5, .int 0)]) (st2 := [.long 0, .ref 93]) jF_125_62 rfl rfl) ?_
  refine Eq.trans (jr_s (pc2 := 65) (lv2 := [(6, .int 0), (0, .ref 93), (1, .ref 20), (2, .long 0), (4, .int 0), (5, .int 0)]) (st2 := [.int 0, .long 0, .ref 93]) jF_125_63 rfl rfl) ?_
  refine Eq.trans (jr_cV (a := 93) (as := [.long 0, .int 0]) (rest := []) (v := none) (hp2 := (j_hp (JR 47 133 0 (lv_args 0 [.ref 93, .long 0, .int 0]) [] (j_hp (JR 25 132 0 (lv_args 0 [.ref 93, .ref 20]) [] (j_stf (j_hp (JR 25 128 0 (lv_args 0 [.ref 93]) [] (j_hp (JR 305 127 0 (lv_args 0 [.ref 93, .ref 20]) [] (j_stf jh2 93 14 (.int 1)) 0 0 497 19931)) 0 0 497 19931)) 93 10 (.int 0)) 0 0 497 19931)) 0 0 498 19950))) (fr2 := 498) (lo2 := 19950) jF_125_65 (by decide +kernel) rfl (show j_cnd 499 19974 498 19950 5 _ _ = true from rfl) ?_) ?_
  · exact jr_upl (jr_cl (v := none) (by decide +kernel)) (by omega)
  refine Eq.trans (jr_s (pc2 := 69) (lv2 := [(6, .int 0), (0, .ref 93), (1, .ref 20), (2, .long 0), (4, .int 0), (5, .int 0)]) (st2 := [.ref 93]) jF_125_68 rfl rfl) ?_
  refine Eq.trans (jr_gf (v := .ref 99) jF_125_69 (by decide +kernel)) ?_
  refine Eq.trans (jr_s (pc2 := 74) (lv2 := [(6, .int 0), (0, .ref 93), (1, .ref 20), (2, .long 0), (4, .int 0), (5, .int 0)]) (st2 := [.int 0, .ref 99]) jF_125_72 rfl rfl) ?_
  refine Eq.trans (jr_s (pc2 := 75) (lv2 := [(6, .int 0), (0, .ref 93), (1, .ref 20), (2, .long 0), (4, .int 0), (5, .int 0)]) (st2 := [.long 0, .int 0, .ref 99]) jF_125_74 rfl rfl) ?_
  refine Eq.trans (jr_stl (q := 0) jF_125_75 (by decide +kernel) (by decide +kernel)) ?_
  refine Eq.trans (jr_s (pc2 := 77) (lv2 := [(6, .int 0), (0, .ref 93), (1, .ref 20), (2, .long 0), (4, .int 0), (5, .int 0)]) (st2 := [.ref 93]) jF_125_76 rfl rfl) ?_
  refine Eq.trans (jr_gf (v := .ref 100) jF_125_77 (by decide +kernel)) ?_
  refine Eq.trans (jr_s (pc2 := 82) (lv2 := [(6, .int 0), (0, .ref 93), (1, .ref 20), (2, .long 0), (4, .int 0), (5, .int 0)]) (st2 := [.int 0, .ref 100]) jF_125_80 rfl rfl) ?_
  refine Eq.trans (jr_s (pc2 := 83) (lv2 := [(6, .int 0), (0, .ref 93), (1, .ref 20), (2, .long 0), (4, .int 0), (5, .int 0)]) (st2 := [.int 1, .int 0, .ref 100]) jF_125_82 rfl rfl) ?_
  refine Eq.trans (jr_stb (q := 0) (w := 1) jF_125_83 (by decide +kernel) (by decide +kernel)) ?_
  refine Eq.trans (jr_s (pc2 := 85) (lv2 := [(6, .int 0), (0, .ref 93), (1, .ref 20), (2, .long 0), (4, .int 0), (5, .int 0)]) (st2 := [.ref 93]) jF_125_84 rfl rfl) ?_
  refine Eq.trans (jr_gf (v := .ref 101) jF_125_85 (by decide +kernel)) ?_
  refine Eq.trans (jr_s (pc2 := 90) (lv2 := [(6, .int 0), (0, .ref 93), (1, .ref 20), (2, .long 0), (4, .int 0), (5, .int 0)]) (st2 := [.int 0, .ref 101]) jF_125_88 rfl rfl) ?_
  refine Eq.trans (jr_s (pc2 := 92) (lv2 := [(6, .int 0), (0, .ref 93), (1, .ref 20), (2, .long 0), (4, .int 0), (5, .int 0)]) (st2 := [.int 0, .int 0, .ref 101]) jF_125_90 rfl rfl) ?_
  refine Eq.trans (jr_s (pc2 := 93) (lv2 := [(6, .int 0), (0, .ref 93), (1, .ref 20), (2, .long 0), (4, .int 0), (5, .int 0)]) (st2 := [.int 0, .ref 101]) jF_125_92 rfl rfl) ?_
  refine Eq.trans (jr_ldi (v := .int 0) jF_125_93 (by decide +kernel)) ?_
  exact jr_ri jF_125_94 rfl
set_option maxHeartbeats 8000000 in
set_option maxRecDepth 100000 in
theorem pl_fewest_3 (n : Nat) : JR (n + 40232) 125 0 (lv_args 0 [.ref 93, .ref 20, .long 0, .int 0, .int 1]) [] jh2 0 0 499 19974 = some (some (.int 0), (j_stf (j_stf (j_hp (JR 47 133 0 (lv_args 0 [.ref 93, .long 0, .int 0]) [] (j_hp (JR 25 132 0 (lv_args 0 [.ref 93, .ref 20]) [] (j_stf (j_hp (JR 25 128 0 (lv_args 0 [.ref 93]) [] (j_hp (JR 305 127 0 (lv_args 0 [.ref 93, .ref 20]) [] (j_stf jh2 93 14 (.int 1)) 0 0 497 19931)) 0 0 497 19931)) 93 10 (.int 0)) 0 0 497 19931)) 0 0 498 19950)) 99 0 (.long 0)) 100 0 (.int 1)), 0, 0) := by
  refine Eq.trans (jr_s (pc2 := 2) (lv2 := [(0, .ref 93), (1, .ref 20), (2, .long 0), (4, .int 0), (5, .int 1)]) (st2 := [.int 1]) jF_125_0 rfl rfl) ?_
  refine Eq.trans (jr_if0 jF_125_2 (by decide +kernel)) ?_
  refine Eq.trans (jr_s (pc2 := 7) (lv2 := [(0, .ref 93), (1, .ref 20), (2, .long 0), (4, .int 0), (5, .int 1)]) (st2 := [.int 1]) jF_125_5 rfl rfl) ?_
  refine Eq.trans (jr_s (pc2 := 8) (lv2 := [(0, .ref 93), (1, .ref 20), (2, .long 0), (4, .int 0), (5, .int 1)]) (st2 := [.int 4, .int 1]) jF_125_7 rfl rfl) ?_
  refine Eq.trans (jr_ic0 jF_125_8 (by decide +kernel)) ?_
  refine Eq.trans (jr_s (pc2 := 13) (lv2 := [(0, .ref 93), (1, .ref 20), (2, .long 0), (4, .int 0), (5, .int 1)]) (st2 := [.int 0]) jF_125_11 rfl rfl) ?_
  refine Eq.trans (jr_if0 jF_125_13 (by decide +kernel)) ?_
  refine Eq.trans (jr_s (pc2 := 18) (lv2 := [(0, .ref 93), (1, .ref 20), (2, .long 0), (4, .int 0), (5, .int 1)]) (st2 := [.int 0]) jF_125_16 rfl rfl) ?_
  refine Eq.trans (jr_s (pc2 := 19) (lv2 := [(0, .ref 93), (1, .ref 20), (2, .long 0), (4, .int 0), (5, .int 1)]) (st2 := [.ref 93, .int 0]) jF_125_18 rfl rfl) ?_
  refine Eq.trans (jr_gf (v := .ref 99) jF_125_19 (by decide +kernel)) ?_
  refine Eq.trans (jr_al (v := 2) jF_125_22 (by decide +kernel)) ?_
  refine Eq.trans (jr_ic1 jF_125_23 (by decide +kernel)) ?_
  refine Eq.trans (jr_s (pc2 := 30) (lv2 := [(0, .ref 93), (1, .ref 20), (2, .long 0), (4, .int 0), (5, .int 1)]) (st2 := [.int 0]) jF_125_28 rfl rfl) ?_
  refine Eq.trans (jr_s (pc2 := 31) (lv2 := [(0, .ref 93), (1, .ref 20), (2, .long 0), (4, .int 0), (5, .int 1)]) (st2 := [.int 4, .int 0]) jF_125_30 rfl rfl) ?_
  refine Eq.trans (jr_s (pc2 := 32) (lv2 := [(0, .ref 93), (1, .ref 20), (2, .long 0), (4, .int 0), (5, .int 1)]) (st2 := [.int 0]) jF_125_31 rfl rfl) ?_
  refine Eq.trans (jr_s (pc2 := 34) (lv2 := [(6, .int 0), (0, .ref 93), (1, .ref 20), (2, .long 0), (4, .int 0), (5, .int 1)]) (st2 := []) jF_125_32 rfl rfl) ?_
  refine Eq.trans (jr_s (pc2 := 35) (lv2 := [(6, .int 0), (0, .ref 93), (1, .ref 20), (2, .long 0), (4, .int 0), (5, .int 1)]) (st2 := [.ref 93]) jF_125_34 rfl rfl) ?_
  refine Eq.trans (jr_gf (v := .ref 100) jF_125_35 (by decide +kernel)) ?_
  refine Eq.trans (jr_s (pc2 := 40) (lv2 := [(6, .int 0), (0, .ref 93), (1, .ref 20), (2, .long 0), (4, .int 0), (5, .int 1)]) (st2 := [.int 0, .ref 100]) jF_125_38 rfl rfl) ?_
  refine Eq.trans (jr_ldb (v := .int 0) jF_125_40 (by decide +kernel)) ?_
  refine Eq.trans (jr_if1 jF_125_41 (by decide +kernel)) ?_
  refine Eq.trans (jr_s (pc2 := 57) (lv2 := [(6, .int 0), (0, .ref 93), (1, .ref 20), (2, .long 0), (4, .int 0), (5, .int 1)]) (st2 := [.ref 93]) jF_125_56 rfl rfl) ?_
  refine Eq.trans (jr_s (pc2 := 58) (lv2 := [(6, .int 0), (0, .ref 93), (1, .ref 20), (2, .long 0), (4, .int 0), (5, .int 1)]) (st2 := [.ref 20, .ref 93]) jF_125_57 rfl rfl) ?_
  refine Eq.trans (jr_cV (a := 93) (as := [.ref 20]) (rest := []) (v := none) (hp2 := (j_hp (JR 25 132 0 (lv_args 0 [.ref 93, .ref 20]) [] (j_stf (j_hp (JR 25 128 0 (lv_args 0 [.ref 93]) [] (j_hp (JR 305 127 0 (lv_args 0 [.ref 93, .ref 20]) [] (j_stf jh2 93 14 (.int 1)) 0 0 497 19931)) 0 0 497 19931)) 93 10 (.int 0)) 0 0 497 19931))) (fr2 := 498) (lo2 := 19953) jF_125_58 (by decide +kernel) rfl (show j_cnd 499 19974 498 19953 2 _ _ = true from rfl) ?_) ?_
  · exact jr_upl (pl_fewest_1 0) (by omega)
  refine Eq.trans (jr_s (pc2 := 62) (lv2 := [(6, .int 0), (0, .ref 93), (1, .ref 20), (2, .long 0), (4, .int 0), (5, .int 1)]) (st2 := [.ref 93]) jF_125_61 rfl rfl) ?_
  refine Eq.trans (jr_s (pc2 := 63) (lv2 := [(6, .int 0), (0, .ref 93), (1, .ref 20), (2, .long 0), (4, .int 0), (5, .int 1)]) (st2 := [.long 0, .ref 93]) jF_125_62 rfl rfl) ?_
  refine Eq.trans (jr_s (pc2 := 65) (lv2 := [(6, .int 0), (0, .ref 93), (1, .ref 20), (2, .long 0), (4, .int 0), (5, .int 1)]) (st2 := [.int 0, .long 0, .ref 93]) jF_125_63 rfl rfl) ?_
  refine Eq.trans (jr_cV (a := 93) (as := [.long 0, .int 0]) (rest := []) (v := none) (hp2 := (j_hp (JR 47 133 0 (lv_args 0 [.ref 93, .long 0, .int 0]) [] (j_hp (JR 25 132 0 (lv_args 0 [.ref 93, .ref 20]) [] (j_stf (j_hp (JR 25 128 0 (lv_args 0 [.ref 93]) [] (j_hp (JR 305 127 0 (lv_args 0 [.ref 93, .ref 20]) [] (j_stf jh2 93 14 (.int 1)) 0 0 497 19931)) 0 0 497 19931)) 93 10 (.int 0)) 0 0 497 19931)) 0 0 498 19950))) (fr2 := 498) (lo2 := 19950) jF_125_65 (by decide +kernel) rfl (show j_cnd 499 19974 498 19950 5 _ _ = true from rfl) ?_) ?_
  · exact jr_upl (jr_cl (v := none) (by decide +kernel)) (by omega)
  refine Eq.trans (jr_s (pc2 := 69) (lv2 := [(6, .int 0), (0, .ref 93), (1, .ref 20), (2, .long 0), (4, .int 0), (5, .int 1)]) (st2 := [.ref 93]) jF_125_68 rfl rfl) ?_
  refine Eq.trans (jr_gf (v := .ref 99) jF_125_69 (by decide +kernel)) ?_
  refine Eq.trans (jr_s (pc2 := 74) (lv2 := [(6, .int 0), (0, .ref 93), (1, .ref 20), (2, .long 0), (4, .int 0), (5, .int 1)]) (st2 := [.int 0, .ref 99]) jF_125_72 rfl rfl) ?_
  refine Eq.trans (jr_s (pc2 := 75) (lv2 := [(6, .int 0), (0, .ref 93), (1, .ref 20), (2, .long 0), (4, .int 0), (5, .int 1)]) (st2 := [.long 0, .int 0, .ref 99]) jF_125_74 rfl rfl) ?_
  refine Eq.trans (jr_stl (q := 0) jF_125_75 (by decide +kernel) (by decide +kernel)) ?_
  refine Eq.trans (jr_s (pc2 := 77) (lv2 := [(6, .int 0), (0, .ref 93), (1, .ref 20), (2, .long 0), (4, .int 0), (5, .int 1)]) (st2 := [.ref 93]) jF_125_76 rfl rfl) ?_
  refine Eq.trans (jr_gf (v := .ref 100) jF_125_77 (by decide +kernel)) ?_
  refine Eq.trans (jr_s (pc2 := 82) (lv2 := [(6, .int 0), (0, .ref 93), (1, .ref 20), (2, .long 0), (4, .int 0), (5, .int 1)]) (st2 := [.int 0, .ref 100]) jF_125_80 rfl rfl) ?_
  refine Eq.trans (jr_s (pc2 := 83) (lv2 := [(6, .int 0), (0, .ref 93), (1, .ref 20), (2, .long 0), (4, .int 0), (5, .int 1)]) (st2 := [.int 1, .int 0, .ref 100]) jF_125_82 rfl rfl) ?_
  refine Eq.trans (jr_stb (q := 0) (w := 1) jF_125_83 (by decide +kernel) (by decide +kernel)) ?_
  refine Eq.trans (jr_s (pc2 := 85) (lv2 := [(6, .int 0), (0, .ref 93), (1, .ref 20), (2, .long 0), (4, .int 0), (5, .int 1)]) (st2 := [.ref 93]) jF_125_84 rfl rfl) ?_
  refine Eq.trans (jr_gf (v := .ref 101) jF_125_85 (by decide +kernel)) ?_
  refine Eq.trans (jr_s (pc2 := 90) (lv2 := [(6, .int 0), (0, .ref 93), (1, .ref 20), (2, .long 0), (4, .int 0), (5, .int 1)]) (st2 := [.int 0, .ref 101]) jF_125_88 rfl rfl) ?_
  refine Eq.trans (jr_s (pc2 := 92) (lv2 := [(6, .int 0), (0, .ref 93), (1, .ref 20), (2, .long 0), (4, .int 0), (5, .int 1)]) (st2 := [.int 1, .int 0, .ref 101]) jF_125_90 rfl rfl) ?_
  refine Eq.trans (jr_s (pc2 := 93) (lv2 := [(6, .int 0), (0, .ref 93), (1, .ref 20), (2, .long 0), (4, .int 0), (5, .int 1)]) (st2 := [.int 1, .ref 101]) jF_125_92 rfl rfl) ?_
  refine Eq.trans (jr_ldi (v := .int 0) jF_125_93 (by decide +kernel)) ?_
  exact jr_ri jF_125_94 rfl
set_option maxHeartbeats 8000000 in
set_option maxRecDepth 100000 in
theorem pl_fewest_4 (n : Nat) : JR (n + 40232) 125 0 (lv_args 0 [.ref 93, .ref 20, .long 0, .int 0, .int 2]) [] jh2 0 0 499 19974 = some (some (.int (-1)), (j_stf (j_stf (j_hp (JR 47 133 0 (lv_args 0 [.ref 93, .long 0, .int 0]) [] (j_hp (JR 25 132 0 (lv_args 0 [.ref 93, .ref 20]) [] (j_stf (j_hp (JR 25 128 0 (lv_args 0 [.ref 93]) [] (j_hp (JR 305 127 0 (lv_args 0 [.ref 93, .ref 20]) [] (j_stf jh2 93 14 (.int 1)) 0 0 497 19931)) 0 0 497 19931)) 93 10 (.int 0)) 0 0 497 19931)) 0 0 498 19950)) 99 0 (.long 0)) 100 0 (.int 1)), 0, 0) := by
  refine Eq.trans (jr_s (pc2 := 2) (lv2 := [(0, .ref 93), (1, .ref 20), (2, .long 0), (4, .int 0), (5, .int 2)]) (st2 := [.int 2]) jF_125_0 rfl rfl) ?_
  refine Eq.trans (jr_if0 jF_125_2 (by decide +kernel)) ?_
  refine Eq.trans (jr_s (pc2 := 7) (lv2 := [(0, .ref 93), (1, .ref 20), (2, .long 0), (4, .int 0), (5, .int 2)]) (st2 := [.int 2]) jF_125_5 rfl rfl) ?_
  refine Eq.trans (jr_s (pc2 := 8) (lv2 := [(0, .ref 93), (1, .ref 20), (2, .long 0), (4, .int 0), (5, .int 2)]) (st2 := [.int 4, .int 2]) jF_125_7 rfl rfl) ?_
  refine Eq.trans (jr_ic0 jF_125_8 (by decide +kernel)) ?_
  refine Eq.trans (jr_s (pc2 := 13) (lv2 := [(0, .ref 93), (1, .ref 20), (2, .long 0), (4, .int 0), (5, .int 2)]) (st2 := [.int 0]) jF_125_11 rfl rfl) ?_
  refine Eq.trans (jr_if0 jF_125_13 (by decide +kernel)) ?_
  refine Eq.trans (jr_s (pc2 := 18) (lv2 := [(0, .ref 93), (1, .ref 20), (2, .long 0), (4, .int 0), (5, .int 2)]) (st2 := [.int 0]) jF_125_16 rfl rfl) ?_
  refine Eq.trans (jr_s (pc2 := 19) (lv2 := [(0, .ref 93), (1, .ref 20), (2, .long 0), (4, .int 0), (5, .int 2)]) (st2 := [.ref 93, .int 0]) jF_125_18 rfl rfl) ?_
  refine Eq.trans (jr_gf (v := .ref 99) jF_125_19 (by decide +kernel)) ?_
  refine Eq.trans (jr_al (v := 2) jF_125_22 (by decide +kernel)) ?_
  refine Eq.trans (jr_ic1 jF_125_23 (by decide +kernel)) ?_
  refine Eq.trans (jr_s (pc2 := 30) (lv2 := [(0, .ref 93), (1, .ref 20), (2, .long 0), (4, .int 0), (5, .int 2)]) (st2 := [.int 0]) jF_125_28 rfl rfl) ?_
  refine Eq.trans (jr_s (pc2 := 31) (lv2 := [(0, .ref 93), (1, .ref 20), (2, .long 0), (4, .int 0), (5, .int 2)]) (st2 := [.int 4, .int 0]) jF_125_30 rfl rfl) ?_
  refine Eq.trans (jr_s (pc2 := 32) (lv2 := [(0, .ref 93), (1, .ref 20), (2, .long 0), (4, .int 0), (5, .int 2)]) (st2 := [.int 0]) jF_125_31 rfl rfl) ?_
  refine Eq.trans (jr_s (pc2 := 34) (lv2 := [(6, .int 0), (0, .ref 93), (1, .ref 20), (2, .long 0), (4, .int 0), (5, .int 2)]) (st2 := []) jF_125_32 rfl rfl) ?_
  refine Eq.trans (jr_s (pc2 := 35) (lv2 := [(6, .int 0), (0, .ref 93), (1, .ref 20), (2, .long 0), (4, .int 0), (5, .int 2)]) (st2 := [.ref 93]) jF_125_34 rfl rfl) ?_
  refine Eq.trans (jr_gf (v := .ref 100) jF_125_35 (by decide +kernel)) ?_
  refine Eq.trans (jr_s (pc2 := 40) (lv2 := [(6, .int 0), (0, .ref 93), (1, .ref 20), (2, .long 0), (4, .int 0), (5, .int 2)]) (st2 := [.int 0, .ref 100]) jF_125_38 rfl rfl) ?_
  refine Eq.trans (jr_ldb (v := .int 0) jF_125_40 (by decide +kernel)) ?_
  refine Eq.trans (jr_if1 jF_125_41 (by decide +kernel)) ?_
  refine Eq.trans (jr_s (pc2 := 57) (lv2 := [(6, .int 0), (0, .ref 93), (1, .ref 20), (2, .long 0), (4, .int 0), (5, .int 2)]) (st2 := [.ref 93]) jF_125_56 rfl rfl) ?_
  refine Eq.trans (jr_s (pc2 := 58) (lv2 := [(6, .int 0), (0, .ref 93), (1, .ref 20), (2, .long 0), (4, .int 0), (5, .int 2)]) (st2 := [.ref 20, .ref 93]) jF_125_57 rfl rfl) ?_
  refine Eq.trans (jr_cV (a := 93) (as := [.ref 20]) (rest := []) (v := none) (hp2 := (j_hp (JR 25 132 0 (lv_args 0 [.ref 93, .ref 20]) [] (j_stf (j_hp (JR 25 128 0 (lv_args 0 [.ref 93]) [] (j_hp (JR 305 127 0 (lv_args 0 [.ref 93, .ref 20]) [] (j_stf jh2 93 14 (.int 1)) 0 0 497 19931)) 0 0 497 19931)) 93 10 (.int 0)) 0 0 497 19931))) (fr2 := 498) (lo2 := 19953) jF_125_58 (by decide +kernel) rfl (show j_cnd 499 19974 498 19953 2 _ _ = true from rfl) ?_) ?_
  · exact jr_upl (pl_fewest_1 0) (by omega)
  refine Eq.trans (jr_s (pc2 := 62) (lv2 := [(6, .int 0), (0, .ref 93), (1, .ref 20), (2, .long 0), (4, .int 0), (5, .int 2)]) (st2 := [.ref 93]) jF_125_61 rfl rfl) ?_
  refine Eq.trans (jr_s (pc2 := 63) (lv2 := [(6, .int 0), (0, .ref 93), (1, .ref 20), (2, .long 0), (4, .int 0), (5, .int 2)]) (st2 := [.long 0, .ref 93]) jF_125_62 rfl rfl) ?_
  refine Eq.trans (jr_s (pc2 := 65) (lv2 := [(6, .int 0), (0, .ref 93), (1, .ref 20), (2, .long 0), (4, .int 0), (5, .int 2)]) (st2 := [.int 0, .long 0, .ref 93]) jF_125_63 rfl rfl) ?_
  refine Eq.trans (jr_cV (a := 93) (as := [.long 0, .int 0]) (rest := []) (v := none) (hp2 := (j_hp (JR 47 133 0 (lv_args 0 [.ref 93, .long 0, .int 0]) [] (j_hp (JR 25 132 0 (lv_args 0 [.ref 93, .ref 20]) [] (j_stf (j_hp (JR 25 128 0 (lv_args 0 [.ref 93]) [] (j_hp (JR 305 127 0 (lv_args 0 [.ref 93, .ref 20]) [] (j_stf jh2 93 14 (.int 1)) 0 0 497 19931)) 0 0 497 19931)) 93 10 (.int 0)) 0 0 497 19931)) 0 0 498 19950))) (fr2 := 498) (lo2 := 19950) jF_125_65 (by decide +kernel) rfl (show j_cnd 499 19974 498 19950 5 _ _ = true from rfl) ?_) ?_
  · exact jr_upl (jr_cl (v := none) (by decide +kernel)) (by omega)
  refine Eq.trans (jr_s (pc2 := 69) (lv2 := [(6, .int 0), (0, .ref 93), (1, .ref 20), (2, .long 0), (4, .int 0), (5, .int 2)]) (st2 := [.ref 93]) jF_125_68 rfl rfl) ?_
  refine Eq.trans (jr_gf (v := .ref 99) jF_125_69 (by decide +kernel)) ?_
  refine Eq.trans (jr_s (pc2 := 74) (lv2 := [(6, .int 0), (0, .ref 93), (1, .ref 20), (2, .long 0), (4, .int 0), (5, .int 2)]) (st2 := [.int 0, .ref 99]) jF_125_72 rfl rfl) ?_
  refine Eq.trans (jr_s (pc2 := 75) (lv2 := [(6, .int 0), (0, .ref 93), (1, .ref 20), (2, .long 0), (4, .int 0), (5, .int 2)]) (st2 := [.long 0, .int 0, .ref 99]) jF_125_74 rfl rfl) ?_
  refine Eq.trans (jr_stl (q := 0) jF_125_75 (by decide +kernel) (by decide +kernel)) ?_
  refine Eq.trans (jr_s (pc2 := 77) (lv2 := [(6, .int 0), (0, .ref 93), (1, .ref 20), (2, .long 0), (4, .int 0), (5, .int 2)]) (st2 := [.ref 93]) jF_125_76 rfl rfl) ?_
  refine Eq.trans (jr_gf (v := .ref 100) jF_125_77 (by decide +kernel)) ?_
  refine Eq.trans (jr_s (pc2 := 82) (lv2 := [(6, .int 0), (0, .ref 93), (1, .ref 20), (2, .long 0), (4, .int 0), (5, .int 2)]) (st2 := [.int 0, .ref 100]) jF_125_80 rfl rfl) ?_
  refine Eq.trans (jr_s (pc2 := 83) (lv2 := [(6, .int 0), (0, .ref 93), (1, .ref 20), (2, .long 0), (4, .int 0), (5, .int 2)]) (st2 := [.int 1, .int 0, .ref 100]) jF_125_82 rfl rfl) ?_
  refine Eq.trans (jr_stb (q := 0) (w := 1) jF_125_83 (by decide +kernel) (by decide +kernel)) ?_
  refine Eq.trans (jr_s (pc2 := 85) (lv2 := [(6, .int 0), (0, .ref 93), (1, .ref 20), (2, .long 0), (4, .int 0), (5, .int 2)]) (st2 := [.ref 93]) jF_125_84 rfl rfl) ?_
  refine Eq.trans (jr_gf (v := .ref 101) jF_125_85 (by decide +kernel)) ?_
  refine Eq.trans (jr_s (pc2 := 90) (lv2 := [(6, .int 0), (0, .ref 93), (1, .ref 20), (2, .long 0), (4, .int 0), (5, .int 2)]) (st2 := [.int 0, .ref 101]) jF_125_88 rfl rfl) ?_
  refine Eq.trans (jr_s (pc2 := 92) (lv2 := [(6, .int 0), (0, .ref 93), (1, .ref 20), (2, .long 0), (4, .int 0), (5, .int 2)]) (st2 := [.int 2, .int 0, .ref 101]) jF_125_90 rfl rfl) ?_
  refine Eq.trans (jr_s (pc2 := 93) (lv2 := [(6, .int 0), (0, .ref 93), (1, .ref 20), (2, .long 0), (4, .int 0), (5, .int 2)]) (st2 := [.int 2, .ref 101]) jF_125_92 rfl rfl) ?_
  refine Eq.trans (jr_ldi (v := .int (-1)) jF_125_93 (by decide +kernel)) ?_
  exact jr_ri jF_125_94 rfl
set_option maxHeartbeats 8000000 in
set_option maxRecDepth 100000 in
theorem pl_fewest_5 (n : Nat) : JR (n + 40232) 125 0 (lv_args 0 [.ref 93, .ref 20, .long 0, .int 0, .int 3]) [] jh2 0 0 499 19974 = some (some (.int (-1)), (j_stf (j_stf (j_hp (JR 47 133 0 (lv_args 0 [.ref 93, .long 0, .int 0]) [] (j_hp (JR 25 132 0 (lv_args 0 [.ref 93, .ref 20]) [] (j_stf (j_hp (JR 25 128 0 (lv_args 0 [.ref 93]) [] (j_hp (JR 305 127 0 (lv_args 0 [.ref 93, .ref 20]) [] (j_stf jh2 93 14 (.int 1)) 0 0 497 19931)) 0 0 497 19931)) 93 10 (.int 0)) 0 0 497 19931)) 0 0 498 19950)) 99 0 (.long 0)) 100 0 (.int 1)), 0, 0) := by
  refine Eq.trans (jr_s (pc2 := 2) (lv2 := [(0, .ref 93), (1, .ref 20), (2, .long 0), (4, .int 0), (5, .int 3)]) (st2 := [.int 3]) jF_125_0 rfl rfl) ?_
  refine Eq.trans (jr_if0 jF_125_2 (by decide +kernel)) ?_
  refine Eq.trans (jr_s (pc2 := 7) (lv2 := [(0, .ref 93), (1, .ref 20), (2, .long 0), (4, .int 0), (5, .int 3)]) (st2 := [.int 3]) jF_125_5 rfl rfl) ?_
  refine Eq.trans (jr_s (pc2 := 8) (lv2 := [(0, .ref 93), (1, .ref 20), (2, .long 0), (4, .int 0), (5, .int 3)]) (st2 := [.int 4, .int 3]) jF_125_7 rfl rfl) ?_
  refine Eq.trans (jr_ic0 jF_125_8 (by decide +kernel)) ?_
  refine Eq.trans (jr_s (pc2 := 13) (lv2 := [(0, .ref 93), (1, .ref 20), (2, .long 0), (4, .int 0), (5, .int 3)]) (st2 := [.int 0]) jF_125_11 rfl rfl) ?_
  refine Eq.trans (jr_if0 jF_125_13 (by decide +kernel)) ?_
  refine Eq.trans (jr_s (pc2 := 18) (lv2 := [(0, .ref 93), (1, .ref 20), (2, .long 0), (4, .int 0), (5, .int 3)]) (st2 := [.int 0]) jF_125_16 rfl rfl) ?_
  refine Eq.trans (jr_s (pc2 := 19) (lv2 := [(0, .ref 93), (1, .ref 20), (2, .long 0), (4, .int 0), (5, .int 3)]) (st2 := [.ref 93, .int 0]) jF_125_18 rfl rfl) ?_
  refine Eq.trans (jr_gf (v := .ref 99) jF_125_19 (by decide +kernel)) ?_
  refine Eq.trans (jr_al (v := 2) jF_125_22 (by decide +kernel)) ?_
  refine Eq.trans (jr_ic1 jF_125_23 (by decide +kernel)) ?_
  refine Eq.trans (jr_s (pc2 := 30) (lv2 := [(0, .ref 93), (1, .ref 20), (2, .long 0), (4, .int 0), (5, .int 3)]) (st2 := [.int 0]) jF_125_28 rfl rfl) ?_
  refine Eq.trans (jr_s (pc2 := 31) (lv2 := [(0, .ref 93), (1, .ref 20), (2, .long 0), (4, .int 0), (5, .int 3)]) (st2 := [.int 4, .int 0]) jF_125_30 rfl rfl) ?_
  refine Eq.trans (jr_s (pc2 := 32) (lv2 := [(0, .ref 93), (1, .ref 20), (2, .long 0), (4, .int 0), (5, .int 3)]) (st2 := [.int 0]) jF_125_31 rfl rfl) ?_
  refine Eq.trans (jr_s (pc2 := 34) (lv2 := [(6, .int 0), (0, .ref 93), (1, .ref 20), (2, .long 0), (4, .int 0), (5, .int 3)]) (st2 := []) jF_125_32 rfl rfl) ?_
  refine Eq.trans (jr_s (pc2 := 35) (lv2 := [(6, .int 0), (0, .ref 93), (1, .ref 20), (2, .long 0), (4, .int 0), (5, .int 3)]) (st2 := [.ref 93]) jF_125_34 rfl rfl) ?_
  refine Eq.trans (jr_gf (v := .ref 100) jF_125_35 (by decide +kernel)) ?_
  refine Eq.trans (jr_s (pc2 := 40) (lv2 := [(6, .int 0), (0, .ref 93), (1, .ref 20), (2, .long 0), (4, .int 0), (5, .int 3)]) (st2 := [.int 0, .ref 100]) jF_125_38 rfl rfl) ?_
  refine Eq.trans (jr_ldb (v := .int 0) jF_125_40 (by decide +kernel)) ?_
  refine Eq.trans (jr_if1 jF_125_41 (by decide +kernel)) ?_
  refine Eq.trans (jr_s (pc2 := 57) (lv2 := [(6, .int 0), (0, .ref 93), (1, .ref 20), (2, .long 0), (4, .int 0), (5, .int 3)]) (st2 := [.ref 93]) jF_125_56 rfl rfl) ?_
  refine Eq.trans (jr_s (pc2 := 58) (lv2 := [(6, .int 0), (0, .ref 93), (1, .ref 20), (2, .long 0), (4, .int 0), (5, .int 3)]) (st2 := [.ref 20, .ref 93]) jF_125_57 rfl rfl) ?_
  refine Eq.trans (jr_cV (a := 93) (as := [.ref 20]) (rest := []) (v := none) (hp2 := (j_hp (JR 25 132 0 (lv_args 0 [.ref 93, .ref 20]) [] (j_stf (j_hp (JR 25 128 0 (lv_args 0 [.ref 93]) [] (j_hp (JR 305 127 0 (lv_args 0 [.ref 93, .ref 20]) [] (j_stf jh2 93 14 (.int 1)) 0 0 497 19931)) 0 0 497 19931)) 93 10 (.int 0)) 0 0 497 19931))) (fr2 := 498) (lo2 := 19953) jF_125_58 (by decide +kernel) rfl (show j_cnd 499 19974 498 19953 2 _ _ = true from rfl) ?_) ?_
  · exact jr_upl (pl_fewest_1 0) (by omega)
  refine Eq.trans (jr_s (pc2 := 62) (lv2 := [(6, .int 0), (0, .ref 93), (1, .ref 20), (2, .long 0), (4, .int 0), (5, .int 3)]) (st2 := [.ref 93]) jF_125_61 rfl rfl) ?_
  refine Eq.trans (jr_s (pc2 := 63) (lv2 := [(6, .int 0), (0, .ref 93), (1, .ref 20), (2, .long 0), (4, .int 0), (5, .int 3)]) (st2 := [.long 0, .ref 93]) jF_125_62 rfl rfl) ?_
  refine Eq.trans (jr_s (pc2 := 65) (lv2 := [(6, .int 0), (0, .ref 93), (1, .ref 20), (2, .long 0), (4, .int 0), (5, .int 3)]) (st2 := [.int 0, .long 0, .ref 93]) jF_125_63 rfl rfl) ?_
  refine Eq.trans (jr_cV (a := 93) (as := [.long 0, .int 0]) (rest := []) (v := none) (hp2 := (j_hp (JR 47 133 0 (lv_args 0 [.ref 93, .long 0, .int 0]) [] (j_hp (JR 25 132 0 (lv_args 0 [.ref 93, .ref 20]) [] (j_stf (j_hp (JR 25 128 0 (lv_args 0 [.ref 93]) [] (j_hp (JR 305 127 0 (lv_args 0 [.ref 93, .ref 20]) [] (j_stf jh2 93 14 (.int 1)) 0 0 497 19931)) 0 0 497 19931)) 93 10 (.int 0)) 0 0 497 19931)) 0 0 498 19950))) (fr2 := 498) (lo2 := 19950) jF_125_65 (by decide +kernel) rfl (show j_cnd 499 19974 498 19950 5 _ _ = true from rfl) ?_) ?_
  · exact jr_upl (jr_cl (v := none) (by decide +kernel)) (by omega)
  refine Eq.trans (jr_s (pc2 := 69) (lv2 := [(6, .int 0), (0, .ref 93), (1, .ref 20), (2, .long 0), (4, .int 0), (5, .int 3)]) (st2 := [.ref 93]) jF_125_68 rfl rfl) ?_
  refine Eq.trans (jr_gf (v := .ref 99) jF_125_69 (by decide +kernel)) ?_
  refine Eq.trans (jr_s (pc2 := 74) (lv2 := [(6, .int 0), (0, .ref 93), (1, .ref 20), (2, .long 0), (4, .int 0), (5, .int 3)]) (st2 := [.int 0, .ref 99]) jF_125_72 rfl rfl) ?_
  refine Eq.trans (jr_s (pc2 := 75) (lv2 := [(6, .int 0), (0, .ref 93), (1, .ref 20), (2, .long 0), (4, .int 0), (5, .int 3)]) (st2 := [.long 0, .int 0, .ref 99]) jF_125_74 rfl rfl) ?_
  refine Eq.trans (jr_stl (q := 0) jF_125_75 (by decide +kernel) (by decide +kernel)) ?_
  refine Eq.trans (jr_s (pc2 := 77) (lv2 := [(6, .int 0), (0, .ref 93), (1, .ref 20), (2, .long 0), (4, .int 0), (5, .int 3)]) (st2 := [.ref 93]) jF_125_76 rfl rfl) ?_
  refine Eq.trans (jr_gf (v := .ref 100) jF_125_77 (by decide +kernel)) ?_
  refine Eq.trans (jr_s (pc2 := 82) (lv2 := [(6, .int 0), (0, .ref 93), (1, .ref 20), (2, .long 0), (4, .int 0), (5, .int 3)]) (st2 := [.int 0, .ref 100]) jF_125_80 rfl rfl) ?_
  refine Eq.trans (jr_s (pc2 := 83) (lv2 := [(6, .int 0), (0, .ref 93), (1, .ref 20), (2, .long 0), (4, .int 0), (5, .int 3)]) (st2 := [.int 1, .int 0, .ref 100]) jF_125_82 rfl rfl) ?_
  refine Eq.trans (jr_stb (q := 0) (w := 1) jF_125_83 (by decide +kernel) (by decide +kernel)) ?_
  refine Eq.trans (jr_s (pc2 := 85) (lv2 := [(6, .int 0), (0, .ref 93), (1, .ref 20), (2, .long 0), (4, .int 0), (5, .int 3)]) (st2 := [.ref 93]) jF_125_84 rfl rfl) ?_
  refine Eq.trans (jr_gf (v := .ref 101) jF_125_85 (by decide +kernel)) ?_
  refine Eq.trans (jr_s (pc2 := 90) (lv2 := [(6, .int 0), (0, .ref 93), (1, .ref 20), (2, .long 0), (4, .int 0), (5, .int 3)]) (st2 := [.int 0, .ref 101]) jF_125_88 rfl rfl) ?_
  refine Eq.trans (jr_s (pc2 := 92) (lv2 := [(6, .int 0), (0, .ref 93), (1, .ref 20), (2, .long 0), (4, .int 0), (5, .int 3)]) (st2 := [.int 3, .int 0, .ref 101]) jF_125_90 rfl rfl) ?_
  refine Eq.trans (jr_s (pc2 := 93) (lv2 := [(6, .int 0), (0, .ref 93), (1, .ref 20), (2, .long 0), (4, .int 0), (5, .int 3)]) (st2 := [.int 3, .ref 101]) jF_125_92 rfl rfl) ?_
  refine Eq.trans (jr_ldi (v := .int (-1)) jF_125_93 (by decide +kernel)) ?_
  exact jr_ri jF_125_94 rfl
set_option maxHeartbeats 8000000 in
set_option maxRecDepth 100000 in
theorem pl_fewest_6 (n : Nat) : JR (n + 40232) 125 0 (lv_args 0 [.ref 93, .ref 20, .long 0, .int 1, .int 0]) [] jh2 0 0 499 19974 = some (some (.int 0), (j_stf (j_stf (j_hp (JR 47 133 0 (lv_args 0 [.ref 93, .long 0, .int 4]) [] (j_hp (JR 25 132 0 (lv_args 0 [.ref 93, .ref 20]) [] (j_stf (j_hp (JR 25 128 0 (lv_args 0 [.ref 93]) [] (j_hp (JR 305 127 0 (lv_args 0 [.ref 93, .ref 20]) [] (j_stf jh2 93 14 (.int 1)) 0 0 497 19931)) 0 0 497 19931)) 93 10 (.int 0)) 0 0 497 19931)) 0 0 498 19950)) 99 1 (.long 0)) 100 1 (.int 1)), 0, 0) := by
  refine Eq.trans (jr_s (pc2 := 2) (lv2 := [(0, .ref 93), (1, .ref 20), (2, .long 0), (4, .int 1), (5, .int 0)]) (st2 := [.int 0]) jF_125_0 rfl rfl) ?_
  refine Eq.trans (jr_if0 jF_125_2 (by decide +kernel)) ?_
  refine Eq.trans (jr_s (pc2 := 7) (lv2 := [(0, .ref 93), (1, .ref 20), (2, .long 0), (4, .int 1), (5, .int 0)]) (st2 := [.int 0]) jF_125_5 rfl rfl) ?_
  refine Eq.trans (jr_s (pc2 := 8) (lv2 := [(0, .ref 93), (1, .ref 20), (2, .long 0), (4, .int 1), (5, .int 0)]) (st2 := [.int 4, .int 0]) jF_125_7 rfl rfl) ?_
  refine Eq.trans (jr_ic0 jF_125_8 (by decide +kernel)) ?_
  refine Eq.trans (jr_s (pc2 := 13) (lv2 := [(0, .ref 93), (1, .ref 20), (2, .long 0), (4, .int 1), (5, .int 0)]) (st2 := [.int 1]) jF_125_11 rfl rfl) ?_
  refine Eq.trans (jr_if0 jF_125_13 (by decide +kernel)) ?_
  refine Eq.trans (jr_s (pc2 := 18) (lv2 := [(0, .ref 93), (1, .ref 20), (2, .long 0), (4, .int 1), (5, .int 0)]) (st2 := [.int 1]) jF_125_16 rfl rfl) ?_
  refine Eq.trans (jr_s (pc2 := 19) (lv2 := [(0, .ref 93), (1, .ref 20), (2, .long 0), (4, .int 1), (5, .int 0)]) (st2 := [.ref 93, .int 1]) jF_125_18 rfl rfl) ?_
  refine Eq.trans (jr_gf (v := .ref 99) jF_125_19 (by decide +kernel)) ?_
  refine Eq.trans (jr_al (v := 2) jF_125_22 (by decide +kernel)) ?_
  refine Eq.trans (jr_ic1 jF_125_23 (by decide +kernel)) ?_
  refine Eq.trans (jr_s (pc2 := 30) (lv2 := [(0, .ref 93), (1, .ref 20), (2, .long 0), (4, .int 1), (5, .int 0)]) (st2 := [.int 1]) jF_125_28 rfl rfl) ?_
  refine Eq.trans (jr_s (pc2 := 31) (lv2 := [(0, .ref 93), (1, .ref 20), (2, .long 0), (4, .int 1), (5, .int 0)]) (st2 := [.int 4, .int 1]) jF_125_30 rfl rfl) ?_
  refine Eq.trans (jr_s (pc2 := 32) (lv2 := [(0, .ref 93), (1, .ref 20), (2, .long 0), (4, .int 1), (5, .int 0)]) (st2 := [.int 4]) jF_125_31 rfl rfl) ?_
  refine Eq.trans (jr_s (pc2 := 34) (lv2 := [(6, .int 4), (0, .ref 93), (1, .ref 20), (2, .long 0), (4, .int 1), (5, .int 0)]) (st2 := []) jF_125_32 rfl rfl) ?_
  refine Eq.trans (jr_s (pc2 := 35) (lv2 := [(6, .int 4), (0, .ref 93), (1, .ref 20), (2, .long 0), (4, .int 1), (5, .int 0)]) (st2 := [.ref 93]) jF_125_34 rfl rfl) ?_
  refine Eq.trans (jr_gf (v := .ref 100) jF_125_35 (by decide +kernel)) ?_
  refine Eq.trans (jr_s (pc2 := 40) (lv2 := [(6, .int 4), (0, .ref 93), (1, .ref 20), (2, .long 0), (4, .int 1), (5, .int 0)]) (st2 := [.int 1, .ref 100]) jF_125_38 rfl rfl) ?_
  refine Eq.trans (jr_ldb (v := .int 0) jF_125_40 (by decide +kernel)) ?_
  refine Eq.trans (jr_if1 jF_125_41 (by decide +kernel)) ?_
  refine Eq.trans (jr_s (pc2 := 57) (lv2 := [(6, .int 4), (0, .ref 93), (1, .ref 20), (2, .long 0), (4, .int 1), (5, .int 0)]) (st2 := [.ref 93]) jF_125_56 rfl rfl) ?_
  refine Eq.trans (jr_s (pc2 := 58) (lv2 := [(6, .int 4), (0, .ref 93), (1, .ref 20), (2, .long 0), (4, .int 1), (5, .int 0)]) (st2 := [.ref 20, .ref 93]) jF_125_57 rfl rfl) ?_
  refine Eq.trans (jr_cV (a := 93) (as := [.ref 20]) (rest := []) (v := none) (hp2 := (j_hp (JR 25 132 0 (lv_args 0 [.ref 93, .ref 20]) [] (j_stf (j_hp (JR 25 128 0 (lv_args 0 [.ref 93]) [] (j_hp (JR 305 127 0 (lv_args 0 [.ref 93, .ref 20]) [] (j_stf jh2 93 14 (.int 1)) 0 0 497 19931)) 0 0 497 19931)) 93 10 (.int 0)) 0 0 497 19931))) (fr2 := 498) (lo2 := 19953) jF_125_58 (by decide +kernel) rfl (show j_cnd 499 19974 498 19953 2 _ _ = true from rfl) ?_) ?_
  · exact jr_upl (pl_fewest_1 0) (by omega)
  refine Eq.trans (jr_s (pc2 := 62) (lv2 := [(6, .int 4), (0, .ref 93), (1, .ref 20), (2, .long 0), (4, .int 1), (5, .int 0)]) (st2 := [.ref 93]) jF_125_61 rfl rfl) ?_
  refine Eq.trans (jr_s (pc2 := 63) (lv2 := [(6, .int 4), (0, .ref 93), (1, .ref 20), (2, .long 0), (4, .int 1), (5, .int 0)]) (st2 := [.long 0, .ref 93]) jF_125_62 rfl rfl) ?_
  refine Eq.trans (jr_s (pc2 := 65) (lv2 := [(6, .int 4), (0, .ref 93), (1, .ref 20), (2, .long 0), (4, .int 1), (5, .int 0)]) (st2 := [.int 4, .long 0, .ref 93]) jF_125_63 rfl rfl) ?_
  refine Eq.trans (jr_cV (a := 93) (as := [.long 0, .int 4]) (rest := []) (v := none) (hp2 := (j_hp (JR 47 133 0 (lv_args 0 [.ref 93, .long 0, .int 4]) [] (j_hp (JR 25 132 0 (lv_args 0 [.ref 93, .ref 20]) [] (j_stf (j_hp (JR 25 128 0 (lv_args 0 [.ref 93]) [] (j_hp (JR 305 127 0 (lv_args 0 [.ref 93, .ref 20]) [] (j_stf jh2 93 14 (.int 1)) 0 0 497 19931)) 0 0 497 19931)) 93 10 (.int 0)) 0 0 497 19931)) 0 0 498 19950))) (fr2 := 498) (lo2 := 19950) jF_125_65 (by decide +kernel) rfl (show j_cnd 499 19974 498 19950 5 _ _ = true from rfl) ?_) ?_
  · exact jr_upl (jr_cl (v := none) (by decide +kernel)) (by omega)
  refine Eq.trans (jr_s (pc2 := 69) (lv2 := [(6, .int 4), (0, .ref 93), (1, .ref 20), (2, .long 0), (4, .int 1), (5, .int 0)]) (st2 := [.ref 93]) jF_125_68 rfl rfl) ?_
  refine Eq.trans (jr_gf (v := .ref 99) jF_125_69 (by decide +kernel)) ?_
  refine Eq.trans (jr_s (pc2 := 74) (lv2 := [(6, .int 4), (0, .ref 93), (1, .ref 20), (2, .long 0), (4, .int 1), (5, .int 0)]) (st2 := [.int 1, .ref 99]) jF_125_72 rfl rfl) ?_
  refine Eq.trans (jr_s (pc2 := 75) (lv2 := [(6, .int 4), (0, .ref 93), (1, .ref 20), (2, .long 0), (4, .int 1), (5, .int 0)]) (st2 := [.long 0, .int 1, .ref 99]) jF_125_74 rfl rfl) ?_
  refine Eq.trans (jr_stl (q := 1) jF_125_75 (by decide +kernel) (by decide +kernel)) ?_
  refine Eq.trans (jr_s (pc2 := 77) (lv2 := [(6, .int 4), (0, .ref 93), (1, .ref 20), (2, .long 0), (4, .int 1), (5, .int 0)]) (st2 := [.ref 93]) jF_125_76 rfl rfl) ?_
  refine Eq.trans (jr_gf (v := .ref 100) jF_125_77 (by decide +kernel)) ?_
  refine Eq.trans (jr_s (pc2 := 82) (lv2 := [(6, .int 4), (0, .ref 93), (1, .ref 20), (2, .long 0), (4, .int 1), (5, .int 0)]) (st2 := [.int 1, .ref 100]) jF_125_80 rfl rfl) ?_
  refine Eq.trans (jr_s (pc2 := 83) (lv2 := [(6, .int 4), (0, .ref 93), (1, .ref 20), (2, .long 0), (4, .int 1), (5, .int 0)]) (st2 := [.int 1, .int 1, .ref 100]) jF_125_82 rfl rfl) ?_
  refine Eq.trans (jr_stb (q := 1) (w := 1) jF_125_83 (by decide +kernel) (by decide +kernel)) ?_
  refine Eq.trans (jr_s (pc2 := 85) (lv2 := [(6, .int 4), (0, .ref 93), (1, .ref 20), (2, .long 0), (4, .int 1), (5, .int 0)]) (st2 := [.ref 93]) jF_125_84 rfl rfl) ?_
  refine Eq.trans (jr_gf (v := .ref 101) jF_125_85 (by decide +kernel)) ?_
  refine Eq.trans (jr_s (pc2 := 90) (lv2 := [(6, .int 4), (0, .ref 93), (1, .ref 20), (2, .long 0), (4, .int 1), (5, .int 0)]) (st2 := [.int 4, .ref 101]) jF_125_88 rfl rfl) ?_
  refine Eq.trans (jr_s (pc2 := 92) (lv2 := [(6, .int 4), (0, .ref 93), (1, .ref 20), (2, .long 0), (4, .int 1), (5, .int 0)]) (st2 := [.int 0, .int 4, .ref 101]) jF_125_90 rfl rfl) ?_
  refine Eq.trans (jr_s (pc2 := 93) (lv2 := [(6, .int 4), (0, .ref 93), (1, .ref 20), (2, .long 0), (4, .int 1), (5, .int 0)]) (st2 := [.int 4, .ref 101]) jF_125_92 rfl rfl) ?_
  refine Eq.trans (jr_ldi (v := .int 0) jF_125_93 (by decide +kernel)) ?_
  exact jr_ri jF_125_94 rfl
set_option maxHeartbeats 8000000 in
set_option maxRecDepth 100000 in
theorem pl_fewest_7 (n : Nat) : JR (n + 40232) 125 0 (lv_args 0 [.ref 93, .ref 20, .long 0, .int 1, .int 1]) [] jh2 0 0 499 19974 = some (some (.int 0), (j_stf (j_stf (j_hp (JR 47 133 0 (lv_args 0 [.ref 93, .long 0, .int 4]) [] (j_hp (JR 25 132 0 (lv_args 0 [.ref 93, .ref 20]) [] (j_stf (j_hp (JR 25 128 0 (lv_args 0 [.ref 93]) [] (j_hp (JR 305 127 0 (lv_args 0 [.ref 93, .ref 20]) [] (j_stf jh2 93 14 (.int 1)) 0 0 497 19931)) 0 0 497 19931)) 93 10 (.int 0)) 0 0 497 19931)) 0 0 498 19950)) 99 1 (.long 0)) 100 1 (.int 1)), 0, 0) := by
  refine Eq.trans (jr_s (pc2 := 2) (lv2 := [(0, .ref 93), (1, .ref 20), (2, .long 0), (4, .int 1), (5, .int 1)]) (st2 := [.int 1]) jF_125_0 rfl rfl) ?_
  refine Eq.trans (jr_if0 jF_125_2 (by decide +kernel)) ?_
  refine Eq.trans (jr_s (pc2 := 7) (lv2 := [(0, .ref 93), (1, .ref 20), (2, .long 0), (4, .int 1), (5, .int 1)]) (st2 := [.int 1]) jF_125_5 rfl rfl) ?_
  refine Eq.trans (jr_s (pc2 := 8) (lv2 := [(0, .ref 93), (1, .ref 20), (2, .long 0), (4, .int 1), (5, .int 1)]) (st2 := [.int 4, .int 1]) jF_125_7 rfl rfl) ?_
  refine Eq.trans (jr_ic0 jF_125_8 (by decide +kernel)) ?_
  refine Eq.trans (jr_s (pc2 := 13) (lv2 := [(0, .ref 93), (1, .ref 20), (2, .long 0), (4, .int 1), (5, .int 1)]) (st2 := [.int 1]) jF_125_11 rfl rfl) ?_
  refine Eq.trans (jr_if0 jF_125_13 (by decide +kernel)) ?_
  refine Eq.trans (jr_s (pc2 := 18) (lv2 := [(0, .ref 93), (1, .ref 20), (2, .long 0), (4, .int 1), (5, .int 1)]) (st2 := [.int 1]) jF_125_16 rfl rfl) ?_
  refine Eq.trans (jr_s (pc2 := 19) (lv2 := [(0, .ref 93), (1, .ref 20), (2, .long 0), (4, .int 1), (5, .int 1)]) (st2 := [.ref 93, .int 1]) jF_125_18 rfl rfl) ?_
  refine Eq.trans (jr_gf (v := .ref 99) jF_125_19 (by decide +kernel)) ?_
  refine Eq.trans (jr_al (v := 2) jF_125_22 (by decide +kernel)) ?_
  refine Eq.trans (jr_ic1 jF_125_23 (by decide +kernel)) ?_
  refine Eq.trans (jr_s (pc2 := 30) (lv2 := [(0, .ref 93), (1, .ref 20), (2, .long 0), (4, .int 1), (5, .int 1)]) (st2 := [.int 1]) jF_125_28 rfl rfl) ?_
  refine Eq.trans (jr_s (pc2 := 31) (lv2 := [(0, .ref 93), (1, .ref 20), (2, .long 0), (4, .int 1), (5, .int 1)]) (st2 := [.int 4, .int 1]) jF_125_30 rfl rfl) ?_
  refine Eq.trans (jr_s (pc2 := 32) (lv2 := [(0, .ref 93), (1, .ref 20), (2, .long 0), (4, .int 1), (5, .int 1)]) (st2 := [.int 4]) jF_125_31 rfl rfl) ?_
  refine Eq.trans (jr_s (pc2 := 34) (lv2 := [(6, .int 4), (0, .ref 93), (1, .ref 20), (2, .long 0), (4, .int 1), (5, .int 1)]) (st2 := []) jF_125_32 rfl rfl) ?_
  refine Eq.trans (jr_s (pc2 := 35) (lv2 := [(6, .int 4), (0, .ref 93), (1, .ref 20), (2, .long 0), (4, .int 1), (5, .int 1)]) (st2 := [.ref 93]) jF_125_34 rfl rfl) ?_
  refine Eq.trans (jr_gf (v := .ref 100) jF_125_35 (by decide +kernel)) ?_
  refine Eq.trans (jr_s (pc2 := 40) (lv2 := [(6, .int 4), (0, .ref 93), (1, .ref 20), (2, .long 0), (4, .int 1), (5, .int 1)]) (st2 := [.int 1, .ref 100]) jF_125_38 rfl rfl) ?_
  refine Eq.trans (jr_ldb (v := .int 0) jF_125_40 (by decide +kernel)) ?_
  refine Eq.trans (jr_if1 jF_125_41 (by decide +kernel)) ?_
  refine Eq.trans (jr_s (pc2 := 57) (lv2 := [(6, .int 4), (0, .ref 93), (1, .ref 20), (2, .long 0), (4, .int 1), (5, .int 1)]) (st2 := [.ref 93]) jF_125_56 rfl rfl) ?_
  refine Eq.trans (jr_s (pc2 := 58) (lv2 := [(6, .int 4), (0, .ref 93), (1, .ref 20), (2, .long 0), (4, .int 1), (5, .int 1)]) (st2 := [.ref 20, .ref 93]) jF_125_57 rfl rfl) ?_
  refine Eq.trans (jr_cV (a := 93) (as := [.ref 20]) (rest := []) (v := none) (hp2 := (j_hp (JR 25 132 0 (lv_args 0 [.ref 93, .ref 20]) [] (j_stf (j_hp (JR 25 128 0 (lv_args 0 [.ref 93]) [] (j_hp (JR 305 127 0 (lv_args 0 [.ref 93, .ref 20]) [] (j_stf jh2 93 14 (.int 1)) 0 0 497 19931)) 0 0 497 19931)) 93 10 (.int 0)) 0 0 497 19931))) (fr2 := 498) (lo2 := 19953) jF_125_58 (by decide +kernel) rfl (show j_cnd 499 19974 498 19953 2 _ _ = true from rfl) ?_) ?_
  · exact jr_upl (pl_fewest_1 0) (by omega)
  refine Eq.trans (jr_s (pc2 := 62) (lv2 := [(6, .int 4), (0, .ref 93), (1, .ref 20), (2, .long 0), (4, .int 1), (5, .int 1)]) (st2 := [.ref 93]) jF_125_61 rfl rfl) ?_
  refine Eq.trans (jr_s (pc2 := 63) (lv2 := [(6, .int 4), (0, .ref 93), (1, .ref 20), (2, .long 0), (4, .int 1), (5, .int 1)]) (st2 := [.long 0, .ref 93]) jF_125_62 rfl rfl) ?_
  refine Eq.trans (jr_s (pc2 := 65) (lv2 := [(6, .int 4), (0, .ref 93), (1, .ref 20), (2, .long 0), (4, .int 1), (5, .int 1)]) (st2 := [.int 4, .long 0, .ref 93]) jF_125_63 rfl rfl) ?_
  refine Eq.trans (jr_cV (a := 93) (as := [.long 0, .int 4]) (rest := []) (v := none) (hp2 := (j_hp (JR 47 133 0 (lv_args 0 [.ref 93, .long 0, .int 4]) [] (j_hp (JR 25 132 0 (lv_args 0 [.ref 93, .ref 20]) [] (j_stf (j_hp (JR 25 128 0 (lv_args 0 [.ref 93]) [] (j_hp (JR 305 127 0 (lv_args 0 [.ref 93, .ref 20]) [] (j_stf jh2 93 14 (.int 1)) 0 0 497 19931)) 0 0 497 19931)) 93 10 (.int 0)) 0 0 497 19931)) 0 0 498 19950))) (fr2 := 498) (lo2 := 19950) jF_125_65 (by decide +kernel) rfl (show j_cnd 499 19974 498 19950 5 _ _ = true from rfl) ?_) ?_
  · exact jr_upl (jr_cl (v := none) (by decide +kernel)) (by omega)
  refine Eq.trans (jr_s (pc2 := 69) (lv2 := [(6, .int 4), (0, .ref 93), (1, .ref 20), (2, .long 0), (4, .int 1), (5, .int 1)]) (st2 := [.ref 93]) jF_125_68 rfl rfl) ?_
  refine Eq.trans (jr_gf (v := .ref 99) jF_125_69 (by decide +kernel)) ?_
  refine Eq.trans (jr_s (pc2 := 74) (lv2 := [(6, .int 4), (0, .ref 93), (1, .ref 20), (2, .long 0), (4, .int 1), (5, .int 1)]) (st2 := [.int 1, .ref 99]) jF_125_72 rfl rfl) ?_
  refine Eq.trans (jr_s (pc2 := 75) (lv2 := [(6, .int 4), (0, .ref 93), (1, .ref 20), (2, .long 0), (4, .int 1), (5, .int 1)]) (st2 := [.long 0, .int 1, .ref 99]) jF_125_74 rfl rfl) ?_
  refine Eq.trans (jr_stl (q := 1) jF_125_75 (by decide +kernel) (by decide +kernel)) ?_
  refine Eq.trans (jr_s (pc2 := 77) (lv2 := [(6, .int 4), (0, .ref 93), (1, .ref 20), (2, .long 0), (4, .int 1), (5, .int 1)]) (st2 := [.ref 93]) jF_125_76 rfl rfl) ?_
  refine Eq.trans (jr_gf (v := .ref 100) jF_125_77 (by decide +kernel)) ?_
  refine Eq.trans (jr_s (pc2 := 82) (lv2 := [(6, .int 4), (0, .ref 93), (1, .ref 20), (2, .long 0), (4, .int 1), (5, .int 1)]) (st2 := [.int 1, .ref 100]) jF_125_80 rfl rfl) ?_
  refine Eq.trans (jr_s (pc2 := 83) (lv2 := [(6, .int 4), (0, .ref 93), (1, .ref 20), (2, .long 0), (4, .int 1), (5, .int 1)]) (st2 := [.int 1, .int 1, .ref 100]) jF_125_82 rfl rfl) ?_
  refine Eq.trans (jr_stb (q := 1) (w := 1) jF_125_83 (by decide +kernel) (by decide +kernel)) ?_
  refine Eq.trans (jr_s (pc2 := 85) (lv2 := [(6, .int 4), (0, .ref 93), (1, .ref 20), (2, .long 0), (4, .int 1), (5, .int 1)]) (st2 := [.ref 93]) jF_125_84 rfl rfl) ?_
  refine Eq.trans (jr_gf (v := .ref 101) jF_125_85 (by decide +kernel)) ?_
  refine Eq.trans (jr_s (pc2 := 90) (lv2 := [(6, .int 4), (0, .ref 93), (1, .ref 20), (2, .long 0), (4, .int 1), (5, .int 1)]) (st2 := [.int 4, .ref 101]) jF_125_88 rfl rfl) ?_
  refine Eq.trans (jr_s (pc2 := 92) (lv2 := [(6, .int 4), (0, .ref 93), (1, .ref 20), (2, .long 0), (4, .int 1), (5, .int 1)]) (st2 := [.int 1, .int 4, .ref 101]) jF_125_90 rfl rfl) ?_
  refine Eq.trans (jr_s (pc2 := 93) (lv2 := [(6, .int 4), (0, .ref 93), (1, .ref 20), (2, .long 0), (4, .int 1), (5, .int 1)]) (st2 := [.int 5, .ref 101]) jF_125_92 rfl rfl) ?_
  refine Eq.trans (jr_ldi (v := .int 0) jF_125_93 (by decide +kernel)) ?_
  exact jr_ri jF_125_94 rfl
set_option maxHeartbeats 8000000 in
set_option maxRecDepth 100000 in
theorem pl_fewest_8 (n : Nat) : JR (n + 40232) 125 0 (lv_args 0 [.ref 93, .ref 20, .long 0, .int 1, .int 2]) [] jh2 0 0 499 19974 = some (some (.int (-1)), (j_stf (j_stf (j_hp (JR 47 133 0 (lv_args 0 [.ref 93, .long 0, .int 4]) [] (j_hp (JR 25 132 0 (lv_args 0 [.ref 93, .ref 20]) [] (j_stf (j_hp (JR 25 128 0 (lv_args 0 [.ref 93]) [] (j_hp (JR 305 127 0 (lv_args 0 [.ref 93, .ref 20]) [] (j_stf jh2 93 14 (.int 1)) 0 0 497 19931)) 0 0 497 19931)) 93 10 (.int 0)) 0 0 497 19931)) 0 0 498 19950)) 99 1 (.long 0)) 100 1 (.int 1)), 0, 0) := by
  refine Eq.trans (jr_s (pc2 := 2) (lv2 := [(0, .ref 93), (1, .ref 20), (2, .long 0), (4, .int 1), (5, .int 2)]) (st2 := [.int 2]) jF_125_0 rfl rfl) ?_
  refine Eq.trans (jr_if0 jF_125_2 (by decide +kernel)) ?_
  refine Eq.trans (jr_s (pc2 := 7) (lv2 := [(0, .ref 93), (1, .ref 20), (2, .long 0), (4, .int 1), (5, .int 2)]) (st2 := [.int 2]) jF_125_5 rfl rfl) ?_
  refine Eq.trans (jr_s (pc2 := 8) (lv2 := [(0, .ref 93), (1, .ref 20), (2, .long 0), (4, .int 1), (5, .int 2)]) (st2 := [.int 4, .int 2]) jF_125_7 rfl rfl) ?_
  refine Eq.trans (jr_ic0 jF_125_8 (by decide +kernel)) ?_
  refine Eq.trans (jr_s (pc2 := 13) (lv2 := [(0, .ref 93), (1, .ref 20), (2, .long 0), (4, .int 1), (5, .int 2)]) (st2 := [.int 1]) jF_125_11 rfl rfl) ?_
  refine Eq.trans (jr_if0 jF_125_13 (by decide +kernel)) ?_
  refine Eq.trans (jr_s (pc2 := 18) (lv2 := [(0, .ref 93), (1, .ref 20), (2, .long 0), (4, .int 1), (5, .int 2)]) (st2 := [.int 1]) jF_125_16 rfl rfl) ?_
  refine Eq.trans (jr_s (pc2 := 19) (lv2 := [(0, .ref 93), (1, .ref 20), (2, .long 0), (4, .int 1), (5, .int 2)]) (st2 := [.ref 93, .int 1]) jF_125_18 rfl rfl) ?_
  refine Eq.trans (jr_gf (v := .ref 99) jF_125_19 (by decide +kernel)) ?_
  refine Eq.trans (jr_al (v := 2) jF_125_22 (by decide +kernel)) ?_
  refine Eq.trans (jr_ic1 jF_125_23 (by decide +kernel)) ?_
  refine Eq.trans (jr_s (pc2 := 30) (lv2 := [(0, .ref 93), (1, .ref 20), (2, .long 0), (4, .int 1), (5, .int 2)]) (st2 := [.int 1]) jF_125_28 rfl rfl) ?_
  refine Eq.trans (jr_s (pc2 := 31) (lv2 := [(0, .ref 93), (1, .ref 20), (2, .long 0), (4, .int 1), (5, .int 2)]) (st2 := [.int 4, .int 1]) jF_125_30 rfl rfl) ?_
  refine Eq.trans (jr_s (pc2 := 32) (lv2 := [(0, .ref 93), (1, .ref 20), (2, .long 0), (4, .int 1), (5, .int 2)]) (st2 := [.int 4]) jF_125_31 rfl rfl) ?_
  refine Eq.trans (jr_s (pc2 := 34) (lv2 := [(6, .int 4), (0, .ref 93), (1, .ref 20), (2, .long 0), (4, .int 1), (5, .int 2)]) (st2 := []) jF_125_32 rfl rfl) ?_
  refine Eq.trans (jr_s (pc2 := 35) (lv2 := [(6, .int 4), (0, .ref 93), (1, .ref 20), (2, .long 0), (4, .int 1), (5, .int 2)]) (st2 := [.ref 93]) jF_125_34 rfl rfl) ?_
  refine Eq.trans (jr_gf (v := .ref 100) jF_125_35 (by decide +kernel)) ?_
  refine Eq.trans (jr_s (pc2 := 40) (lv2 := [(6, .int 4), (0, .ref 93), (1, .ref 20), (2, .long 0), (4, .int 1), (5, .int 2)]) (st2 := [.int 1, .ref 100]) jF_125_38 rfl rfl) ?_
  refine Eq.trans (jr_ldb (v := .int 0) jF_125_40 (by decide +kernel)) ?_
  refine Eq.trans (jr_if1 jF_125_41 (by decide +kernel)) ?_
  refine Eq.trans (jr_s (pc2 := 57) (lv2 := [(6, .int 4), (0, .ref 93), (1, .ref 20), (2, .long 0), (4, .int 1), (5, .int 2)]) (st2 := [.ref 93]) jF_125_56 rfl rfl) ?_
  refine Eq.trans (jr_s (pc2 := 58) (lv2 := [(6, .int 4), (0, .ref 93), (1, .ref 20), (2, .long 0), (4, .int 1), (5, .int 2)]) (st2 := [.ref 20, .ref 93]) jF_125_57 rfl rfl) ?_
  refine Eq.trans (jr_cV (a := 93) (as := [.ref 20]) (rest := []) (v := none) (hp2 := (j_hp (JR 25 132 0 (lv_args 0 [.ref 93, .ref 20]) [] (j_stf (j_hp (JR 25 128 0 (lv_args 0 [.ref 93]) [] (j_hp (JR 305 127 0 (lv_args 0 [.ref 93, .ref 20]) [] (j_stf jh2 93 14 (.int 1)) 0 0 497 19931)) 0 0 497 19931)) 93 10 (.int 0)) 0 0 497 19931))) (fr2 := 498) (lo2 := 19953) jF_125_58 (by decide +kernel) rfl (show j_cnd 499 19974 498 19953 2 _ _ = true from rfl) ?_) ?_
  · exact jr_upl (pl_fewest_1 0) (by omega)
  refine Eq.trans (jr_s (pc2 := 62) (lv2 := [(6, .int 4), (0, .ref 93), (1, .ref 20), (2, .long 0), (4, .int 1), (5, .int 2)]) (st2 := [.ref 93]) jF_125_61 rfl rfl) ?_
  refine Eq.trans (jr_s (pc2 := 63) (lv2 := [(6, .int 4), (0, .ref 93), (1, .ref 20), (2, .long 0), (4, .int 1), (5, .int 2)]) (st2 := [.long 0, .ref 93]) jF_125_62 rfl rfl) ?_
  refine Eq.trans (jr_s (pc2 := 65) (lv2 := [(6, .int 4), (0, .ref 93), (1, .ref 20), (2, .long 0), (4, .int 1), (5, .int 2)]) (st2 := [.int 4, .long 0, .ref 93]) jF_125_63 rfl rfl) ?_
  refine Eq.trans (jr_cV (a := 93) (as := [.long 0, .int 4]) (rest := []) (v := none) (hp2 := (j_hp (JR 47 133 0 (lv_args 0 [.ref 93, .long 0, .int 4]) [] (j_hp (JR 25 132 0 (lv_args 0 [.ref 93, .ref 20]) [] (j_stf (j_hp (JR 25 128 0 (lv_args 0 [.ref 93]) [] (j_hp (JR 305 127 0 (lv_args 0 [.ref 93, .ref 20]) [] (j_stf jh2 93 14 (.int 1)) 0 0 497 19931)) 0 0 497 19931)) 93 10 (.int 0)) 0 0 497 19931)) 0 0 498 19950))) (fr2 := 498) (lo2 := 19950) jF_125_65 (by decide +kernel) rfl (show j_cnd 499 19974 498 19950 5 _ _ = true from rfl) ?_) ?_
  · exact jr_upl (jr_cl (v := none) (by decide +kernel)) (by omega)
  refine Eq.trans (jr_s (pc2 := 69) (lv2 := [(6, .int 4), (0, .ref 93), (1, .ref 20), (2, .long 0), (4, .int 1), (5, .int 2)]) (st2 := [.ref 93]) jF_125_68 rfl rfl) ?_
  refine Eq.trans (jr_gf (v := .ref 99) jF_125_69 (by decide +kernel)) ?_
  refine Eq.trans (jr_s (pc2 := 74) (lv2 := [(6, .int 4), (0, .ref 93), (1, .ref 20), (2, .long 0), (4, .int 1), (5, .int 2)]) (st2 := [.int 1, .ref 99]) jF_125_72 rfl rfl) ?_
  refine Eq.trans (jr_s (pc2 := 75) (lv2 := [(6, .int 4), (0, .ref 93), (1, .ref 20), (2, .long 0), (4, .int 1), (5, .int 2)]) (st2 := [.long 0, .int 1, .ref 99]) jF_125_74 rfl rfl) ?_
  refine Eq.trans (jr_stl (q := 1) jF_125_75 (by decide +kernel) (by decide +kernel)) ?_
  refine Eq.trans (jr_s (pc2 := 77) (lv2 := [(6, .int 4), (0, .ref 93), (1, .ref 20), (2, .long 0), (4, .int 1), (5, .int 2)]) (st2 := [.ref 93]) jF_125_76 rfl rfl) ?_
  refine Eq.trans (jr_gf (v := .ref 100) jF_125_77 (by decide +kernel)) ?_
  refine Eq.trans (jr_s (pc2 := 82) (lv2 := [(6, .int 4), (0, .ref 93), (1, .ref 20), (2, .long 0), (4, .int 1), (5, .int 2)]) (st2 := [.int 1, .ref 100]) jF_125_80 rfl rfl) ?_
  refine Eq.trans (jr_s (pc2 := 83) (lv2 := [(6, .int 4), (0, .ref 93), (1, .ref 20), (2, .long 0), (4, .int 1), (5, .int 2)]) (st2 := [.int 1, .int 1, .ref 100]) jF_125_82 rfl rfl) ?_
  refine Eq.trans (jr_stb (q := 1) (w := 1) jF_125_83 (by decide +kernel) (by decide +kernel)) ?_
  refine Eq.trans (jr_s (pc2 := 85) (lv2 := [(6, .int 4), (0, .ref 93), (1, .ref 20), (2, .long 0), (4, .int 1), (5, .int 2)]) (st2 := [.ref 93]) jF_125_84 rfl rfl) ?_
  refine Eq.trans (jr_gf (v := .ref 101) jF_125_85 (by decide +kernel)) ?_
  refine Eq.trans (jr_s (pc2 := 90) (lv2 := [(6, .int 4), (0, .ref 93), (1, .ref 20), (2, .long 0), (4, .int 1), (5, .int 2)]) (st2 := [.int 4, .ref 101]) jF_125_88 rfl rfl) ?_
  refine Eq.trans (jr_s (pc2 := 92) (lv2 := [(6, .int 4), (0, .ref 93), (1, .ref 20), (2, .long 0), (4, .int 1), (5, .int 2)]) (st2 := [.int 2, .int 4, .ref 101]) jF_125_90 rfl rfl) ?_
  refine Eq.trans (jr_s (pc2 := 93) (lv2 := [(6, .int 4), (0, .ref 93), (1, .ref 20), (2, .long 0), (4, .int 1), (5, .int 2)]) (st2 := [.int 6, .ref 101]) jF_125_92 rfl rfl) ?_
  refine Eq.trans (jr_ldi (v := .int (-1)) jF_125_93 (by decide +kernel)) ?_
  exact jr_ri jF_125_94 rfl
set_option maxHeartbeats 8000000 in
set_option maxRecDepth 100000 in
theorem pl_fewest_9 (n : Nat) : JR (n + 40232) 125 0 (lv_args 0 [.ref 93, .ref 20, .long 0, .int 1, .int 3]) [] jh2 0 0 499 19974 = some (some (.int (-1)), (j_stf (j_stf (j_hp (JR 47 133 0 (lv_args 0 [.ref 93, .long 0, .int 4]) [] (j_hp (JR 25 132 0 (lv_args 0 [.ref 93, .ref 20]) [] (j_stf (j_hp (JR 25 128 0 (lv_args 0 [.ref 93]) [] (j_hp (JR 305 127 0 (lv_args 0 [.ref 93, .ref 20]) [] (j_stf jh2 93 14 (.int 1)) 0 0 497 19931)) 0 0 497 19931)) 93 10 (.int 0)) 0 0 497 19931)) 0 0 498 19950)) 99 1 (.long 0)) 100 1 (.int 1)), 0, 0) := by
  refine Eq.trans (jr_s (pc2 := 2) (lv2 := [(0, .ref 93), (1, .ref 20), (2, .long 0), (4, .int 1), (5, .int 3)]) (st2 := [.int 3]) jF_125_0 rfl rfl) ?_
  refine Eq.trans (jr_if0 jF_125_2 (by decide +kernel)) ?_
  refine Eq.trans (jr_s (pc2 := 7) (lv2 := [(0, .ref 93), (1, .ref 20), (2, .long 0), (4, .int 1), (5, .int 3)]) (st2 := [.int 3]) jF_125_5 rfl rfl) ?_
  refine Eq.trans (jr_s (pc2 := 8) (lv2 := [(0, .ref 93), (1, .ref 20), (2, .long 0), (4, .int 1), (5, .int 3)]) (st2 := [.int 4, .int 3]) jF_125_7 rfl rfl) ?_
  refine Eq.trans (jr_ic0 jF_125_8 (by decide +kernel)) ?_
  refine Eq.trans (jr_s (pc2 := 13) (lv2 := [(0, .ref 93), (1, .ref 20), (2, .long 0), (4, .int 1), (5, .int 3)]) (st2 := [.int 1]) jF_125_11 rfl rfl) ?_
  refine Eq.trans (jr_if0 jF_125_13 (by decide +kernel)) ?_
  refine Eq.trans (jr_s (pc2 := 18) (lv2 := [(0, .ref 93), (1, .ref 20), (2, .long 0), (4, .int 1), (5, .int 3)]) (st2 := [.int 1]) jF_125_16 rfl rfl) ?_
  refine Eq.trans (jr_s (pc2 := 19) (lv2 := [(0, .ref 93), (1, .ref 20), (2, .long 0), (4, .int 1), (5, .int 3)]) (st2 := [.ref 93, .int 1]) jF_125_18 rfl rfl) ?_
  refine Eq.trans (jr_gf (v := .ref 99) jF_125_19 (by decide +kernel)) ?_
  refine Eq.trans (jr_al (v := 2) jF_125_22 (by decide +kernel)) ?_
  refine Eq.trans (jr_ic1 jF_125_23 (by decide +kernel)) ?_
  refine Eq.trans (jr_s (pc2 := 30) (lv2 := [(0, .ref 93), (1, .ref 20), (2, .long 0), (4, .int 1), (5, .int 3)]) (st2 := [.int 1]) jF_125_28 rfl rfl) ?_
  refine Eq.trans (jr_s (pc2 := 31) (lv2 := [(0, .ref 93), (1, .ref 20), (2, .long 0), (4, .int 1), (5, .int 3)]) (st2 := [.int 4, .int 1]) jF_125_30 rfl rfl) ?_
  refine Eq.trans (jr_s (pc2 := 32) (lv2 := [(0, .ref 93), (1, .ref 20), (2, .long 0), (4, .int 1), (5, .int 3)]) (st2 := [.int 4]) jF_125_31 rfl rfl) ?_
  refine Eq.trans (jr_s (pc2 := 34) (lv2 := [(6, .int 4), (0, .ref 93), (1, .ref 20), (2, .long 0), (4, .int 1), (5, .int 3)]) (st2 := []) jF_125_32 rfl rfl) ?_
  refine Eq.trans (jr_s (pc2 := 35) (lv2 := [(6, .int 4), (0, .ref 93), (1, .ref 20), (2, .long 0), (4, .int 1), (5, .int 3)]) (st2 := [.ref 93]) jF_125_34 rfl rfl) ?_
  refine Eq.trans (jr_gf (v := .ref 100) jF_125_35 (by decide +kernel)) ?_
  refine Eq.trans (jr_s (pc2 := 40) (lv2 := [(6, .int 4), (0, .ref 93), (1, .ref 20), (2, .long 0), (4, .int 1), (5, .int 3)]) (st2 := [.int 1, .ref 100]) jF_125_38 rfl rfl) ?_
  refine Eq.trans (jr_ldb (v := .int 0) jF_125_40 (by decide +kernel)) ?_
  refine Eq.trans (jr_if1 jF_125_41 (by decide +kernel)) ?_
  refine Eq.trans (jr_s (pc2 := 57) (lv2 := [(6, .int 4), (0, .ref 93), (1, .ref 20), (2, .long 0), (4, .int 1), (5, .int 3)]) (st2 := [.ref 93]) jF_125_56 rfl rfl) ?_
  refine Eq.trans (jr_s (pc2 := 58) (lv2 := [(6, .int 4), (0, .ref 93), (1, .ref 20), (2, .long 0), (4, .int 1), (5, .int 3)]) (st2 := [.ref 20, .ref 93]) jF_125_57 rfl rfl) ?_
  refine Eq.trans (jr_cV (a := 93) (as := [.ref 20]) (rest := []) (v := none) (hp2 := (j_hp (JR 25 132 0 (lv_args 0 [.ref 93, .ref 20]) [] (j_stf (j_hp (JR 25 128 0 (lv_args 0 [.ref 93]) [] (j_hp (JR 305 127 0 (lv_args 0 [.ref 93, .ref 20]) [] (j_stf jh2 93 14 (.int 1)) 0 0 497 19931)) 0 0 497 19931)) 93 10 (.int 0)) 0 0 497 19931))) (fr2 := 498) (lo2 := 19953) jF_125_58 (by decide +kernel) rfl (show j_cnd 499 19974 498 19953 2 _ _ = true from rfl) ?_) ?_
  · exact jr_upl (pl_fewest_1 0) (by omega)
  refine Eq.trans (jr_s (pc2 := 62) (lv2 := [(6, .int 4), (0, .ref 93), (1, .ref 20), (2, .long 0), (4, .int 1), (5, .int 3)]) (st2 := [.ref 93]) jF_125_61 rfl rfl) ?_
  refine Eq.trans (jr_s (pc2 := 63) (lv2 := [(6, .int 4), (0, .ref 93), (1, .ref 20), (2, .long 0), (4, .int 1), (5, .int 3)]) (st2 := [.long 0, .ref 93]) jF_125_62 rfl rfl) ?_
  refine Eq.trans (jr_s (pc2 := 65) (lv2 := [(6, .int 4), (0, .ref 93), (1, .ref 20), (2, .long 0), (4, .int 1), (5, .int 3)]) (st2 := [.int 4, .long 0, .ref 93]) jF_125_63 rfl rfl) ?_
  refine Eq.trans (jr_cV (a := 93) (as := [.long 0, .int 4]) (rest := []) (v := none) (hp2 := (j_hp (JR 47 133 0 (lv_args 0 [.ref 93, .long 0, .int 4]) [] (j_hp (JR 25 132 0 (lv_args 0 [.ref 93, .ref 20]) [] (j_stf (j_hp (JR 25 128 0 (lv_args 0 [.ref 93]) [] (j_hp (JR 305 127 0 (lv_args 0 [.ref 93, .ref 20]) [] (j_stf jh2 93 14 (.int 1)) 0 0 497 19931)) 0 0 497 19931)) 93 10 (.int 0)) 0 0 497 19931)) 0 0 498 19950))) (fr2 := 498) (lo2 := 19950) jF_125_65 (by decide +kernel) rfl (show j_cnd 499 19974 498 19950 5 _ _ = true from rfl) ?_) ?_
  · exact jr_upl (jr_cl (v := none) (by decide +kernel)) (by omega)
  refine Eq.trans (jr_s (pc2 := 69) (lv2 := [(6, .int 4), (0, .ref 93), (1, .ref 20), (2, .long 0), (4, .int 1), (5, .int 3)]) (st2 := [.ref 93]) jF_125_68 rfl rfl) ?_
  refine Eq.trans (jr_gf (v := .ref 99) jF_125_69 (by decide +kernel)) ?_
  refine Eq.trans (jr_s (pc2 := 74) (lv2 := [(6, .int 4), (0, .ref 93), (1, .ref 20), (2, .long 0), (4, .int 1), (5, .int 3)]) (st2 := [.int 1, .ref 99]) jF_125_72 rfl rfl) ?_
  refine Eq.trans (jr_s (pc2 := 75) (lv2 := [(6, .int 4), (0, .ref 93), (1, .ref 20), (2, .long 0), (4, .int 1), (5, .int 3)]) (st2 := [.long 0, .int 1, .ref 99]) jF_125_74 rfl rfl) ?_
  refine Eq.trans (jr_stl (q := 1) jF_125_75 (by decide +kernel) (by decide +kernel)) ?_
  refine Eq.trans (jr_s (pc2 := 77) (lv2 := [(6, .int 4), (0, .ref 93), (1, .ref 20), (2, .long 0), (4, .int 1), (5, .int 3)]) (st2 := [.ref 93]) jF_125_76 rfl rfl) ?_
  refine Eq.trans (jr_gf (v := .ref 100) jF_125_77 (by decide +kernel)) ?_
  refine Eq.trans (jr_s (pc2 := 82) (lv2 := [(6, .int 4), (0, .ref 93), (1, .ref 20), (2, .long 0), (4, .int 1), (5, .int 3)]) (st2 := [.int 1, .ref 100]) jF_125_80 rfl rfl) ?_
  refine Eq.trans (jr_s (pc2 := 83) (lv2 := [(6, .int 4), (0, .ref 93), (1, .ref 20), (2, .long 0), (4, .int 1), (5, .int 3)]) (st2 := [.int 1, .int 1, .ref 100]) jF_125_82 rfl rfl) ?_
  refine Eq.trans (jr_stb (q := 1) (w := 1) jF_125_83 (by decide +kernel) (by decide +kernel)) ?_
  refine Eq.trans (jr_s (pc2 := 85) (lv2 := [(6, .int 4), (0, .ref 93), (1, .ref 20), (2, .long 0), (4, .int 1), (5, .int 3)]) (st2 := [.ref 93]) jF_125_84 rfl rfl) ?_
  refine Eq.trans (jr_gf (v := .ref 101) jF_125_85 (by decide +kernel)) ?_
  refine Eq.trans (jr_s (pc2 := 90) (lv2 := [(6, .int 4), (0, .ref 93), (1, .ref 20), (2, .long 0), (4, .int 1), (5, .int 3)]) (st2 := [.int 4, .ref 101]) jF_125_88 rfl rfl) ?_
  refine Eq.trans (jr_s (pc2 := 92) (lv2 := [(6, .int 4), (0, .ref 93), (1, .ref 20), (2, .long 0), (4, .int 1), (5, .int 3)]) (st2 := [.int 3, .int 4, .ref 101]) jF_125_90 rfl rfl) ?_
  refine Eq.trans (jr_s (pc2 := 93) (lv2 := [(6, .int 4), (0, .ref 93), (1, .ref 20), (2, .long 0), (4, .int 1), (5, .int 3)]) (st2 := [.int 7, .ref 101]) jF_125_92 rfl rfl) ?_
  refine Eq.trans (jr_ldi (v := .int (-1)) jF_125_93 (by decide +kernel)) ?_
  exact jr_ri jF_125_94 rfl
set_option maxHeartbeats 8000000 in
set_option maxRecDepth 100000 in
theorem pm_fewest_0 (a2 : Int32) : PM 124 294 [.int 0, .int a2] := by
  have ub_a2 := Int32.toInt_lt a2
  have lb_a2 := Int32.le_toInt a2
  rcases j_ilt a2.toInt 0 with h_a2_0 | h_a2_0
  · refine ⟨60000, 60000, (-1), jh2, jh2, ?_, ?_, by decide +kernel⟩
    · refine Eq.trans (jr_s (pc2 := 1) (lv2 := [(0, .ref 9), (1, .int 0), (2, .int a2)]) (st2 := [.int 0]) jF_124_0 rfl rfl) ?_
      refine Eq.trans (jr_if1 jF_124_1 (by decide +kernel)) ?_
      refine Eq.trans (jr_s (pc2 := 12) (lv2 := [(0, .ref 9), (1, .int 0), (2, .int a2)]) (st2 := [.ref 9]) jF_124_11 rfl rfl) ?_
      refine Eq.trans (jr_gf (v := .ref 70) jF_124_12 (by decide +kernel)) ?_
      refine Eq.trans (jr_s (pc2 := 16) (lv2 := [(3, .ref 70), (0, .ref 9), (1, .int 0), (2, .int a2)]) (st2 := []) jF_124_15 rfl rfl) ?_
      refine Eq.trans (jr_s (pc2 := 17) (lv2 := [(3, .ref 70), (0, .ref 9), (1, .int 0), (2, .int a2)]) (st2 := [.ref 9]) jF_124_16 rfl rfl) ?_
      refine Eq.trans (jr_gf (v := .ref 93) jF_124_17 (by decide +kernel)) ?_
      refine Eq.trans (jr_s (pc2 := 21) (lv2 := [(3, .ref 70), (0, .ref 9), (1, .int 0), (2, .int a2)]) (st2 := [.ref 9, .ref 93]) jF_124_20 rfl rfl) ?_
      refine Eq.trans (jr_gf (v := .ref 20) jF_124_21 (by decide +kernel)) ?_
      refine Eq.trans (jr_s (pc2 := 25) (lv2 := [(3, .ref 70), (0, .ref 9), (1, .int 0), (2, .int a2)]) (st2 := [.ref 70, .ref 20, .ref 93]) jF_124_24 rfl rfl) ?_
      refine Eq.trans (jr_gf (v := .long 0) jF_124_25 (by decide +kernel)) ?_
      refine Eq.trans (jr_s (pc2 := 29) (lv2 := [(3, .ref 70), (0, .ref 9), (1, .int 0), (2, .int a2)]) (st2 := [.int 0, .long 0, .ref 20, .ref 93]) jF_124_28 rfl rfl) ?_
      refine Eq.trans (jr_cS (as := [.int 0]) (rest := [.long 0, .ref 20, .ref 93]) (v := some (.int 0)) (hp2 := jh2) (fr2 := 499) (lo2 := 19980) jF_124_29 rfl (show j_cnd 500 20000 499 19980 1 _ _ = true from rfl) ?_) ?_
      · refine Eq.trans (jr_s (pc2 := 1) (lv2 := [(0, .int 0)]) (st2 := [.int 0]) jF_98_0 rfl rfl) ?_
        refine Eq.trans (jr_if1 jF_98_1 (by decide +kernel)) ?_
        refine Eq.trans (jr_s (pc2 := 9) (lv2 := [(0, .int 0)]) (st2 := [.int 0]) jF_98_8 rfl rfl) ?_
        exact jr_ri jF_98_9 rfl
      refine Eq.trans (jr_s (pc2 := 33) (lv2 := [(3, .ref 70), (0, .ref 9), (1, .int 0), (2, .int a2)]) (st2 := [.int a2, .int 0, .long 0, .ref 20, .ref 93]) jF_124_32 rfl rfl) ?_
      refine Eq.trans (jr_cV (a := 93) (as := [.ref 20, .long 0, .int 0, .int a2]) (rest := []) (v := some (.int (-1))) (hp2 := jh2) (fr2 := 499) (lo2 := 19974) jF_124_33 (by decide +kernel) rfl (show j_cnd 500 20000 499 19974 7 _ _ = true from rfl) ?_) ?_
      · refine Eq.trans (jr_s (pc2 := 2) (lv2 := [(0, .ref 93), (1, .ref 20), (2, .long 0), (4, .int 0), (5, .int a2)]) (st2 := [.int a2]) jF_125_0 rfl rfl) ?_
        refine Eq.trans (jr_if1 jF_125_2 (jk_lt_lt (show (a2 : Int32).toInt < (0 : Int32).toInt by rw [show (0 : Int32).toInt = 0 from by decide]; omega))) ?_
        refine Eq.trans (jr_s (pc2 := 27) (lv2 := [(0, .ref 93), (1, .ref 20), (2, .long 0), (4, .int 0), (5, .int a2)]) (st2 := [.int (-1)]) jF_125_26 rfl rfl) ?_
        exact jr_ri jF_125_27 rfl
      exact jr_ri jF_124_36 rfl
    · refine Eq.trans (jr_s (pc2 := 1) (lv2 := [(0, .ref 117), (1, .int 0), (2, .int a2)]) (st2 := [.int a2]) jF_294_0 rfl rfl) ?_
      refine Eq.trans (jr_s (pc2 := 2) (lv2 := [(0, .ref 117), (1, .int 0), (2, .int a2)]) (st2 := [.long (Int32.toInt64 a2)]) jF_294_1 rfl rfl) ?_
      refine Eq.trans (jr_s (pc2 := 3) (lv2 := [(0, .ref 117), (1, .int 0), (2, .int a2)]) (st2 := [.long 0, .long (Int32.toInt64 a2)]) jF_294_2 rfl rfl) ?_
      refine Eq.trans (jr_s (pc2 := 6) (lv2 := [(0, .ref 117), (1, .int 0), (2, .int a2)]) (st2 := [.long 3, .long 0, .long (Int32.toInt64 a2)]) jF_294_3 rfl rfl) ?_
      refine Eq.trans (jr_cS (as := [.long (Int32.toInt64 a2), .long 0, .long 3]) (rest := []) (v := some (.int 0)) (hp2 := jh2) (fr2 := 499) (lo2 := 19975) jF_294_6 rfl (show j_cnd 500 20000 499 19975 6 _ _ = true from rfl) ?_) ?_
      · refine Eq.trans (jr_s (pc2 := 1) (lv2 := [(0, .long (Int32.toInt64 a2)), (2, .long 0), (4, .long 3)]) (st2 := [.long (Int32.toInt64 a2)]) jF_232_0 rfl rfl) ?_
        refine Eq.trans (jr_s (pc2 := 2) (lv2 := [(0, .long (Int32.toInt64 a2)), (2, .long 0), (4, .long 3)]) (st2 := [.long 0, .long (Int32.toInt64 a2)]) jF_232_1 rfl rfl) ?_
        refine Eq.trans (jr_s (pc2 := 3) (lv2 := [(0, .long (Int32.toInt64 a2)), (2, .long 0), (4, .long 3)]) (st2 := [.int (lg_cmp (Int32.toInt64 a2) 0)]) jF_232_2 rfl rfl) ?_
        refine Eq.trans (jr_if1 jF_232_3 (jkl_lt_lt (show ((Int32.toInt64 a2) : Int64).toInt < (0 : Int64).toInt by rw [Int32.toInt_toInt64, show (0 : Int64).toInt = 0 from by decide]; omega))) ?_
        refine Eq.trans (jr_s (pc2 := 18) (lv2 := [(0, .long (Int32.toInt64 a2)), (2, .long 0), (4, .long 3)]) (st2 := [.int 0]) jF_232_17 rfl rfl) ?_
        exact jr_ri jF_232_18 rfl
      refine Eq.trans (jr_if0 jF_294_9 (by decide +kernel)) ?_
      refine Eq.trans (jr_s (pc2 := 13) (lv2 := [(0, .ref 117), (1, .int 0), (2, .int a2)]) (st2 := [.int (-1)]) jF_294_12 rfl rfl) ?_
      exact jr_ri jF_294_13 rfl
  · rcases j_ilt a2.toInt 4 with h_a2_4 | h_a2_4
    · rcases j_ilt a2.toInt 1 with h_a2_1 | h_a2_1
      · obtain rfl : a2 = 0 := Int32.toInt_inj.mp (by rw [show (0 : Int32).toInt = 0 from by decide]; omega)
        refine ⟨60000, 60000, 0, (j_stf (j_stf (j_hp (JR 47 133 0 (lv_args 0 [.ref 93, .long 0, .int 0]) [] (j_hp (JR 25 132 0 (lv_args 0 [.ref 93, .ref 20]) [] (j_stf (j_hp (JR 25 128 0 (lv_args 0 [.ref 93]) [] (j_hp (JR 305 127 0 (lv_args 0 [.ref 93, .ref 20]) [] (j_stf jh2 93 14 (.int 1)) 0 0 497 19931)) 0 0 497 19931)) 93 10 (.int 0)) 0 0 497 19931)) 0 0 498 19950)) 99 0 (.long 0)) 100 0 (.int 1)), (j_hp (JR 25 295 0 (lv_args 0 [.ref 117, .long 0]) [] (j_hp (JR 37 277 0 (lv_args 0 [.ref 117, .int 0]) [] (j_stf (j_stf (j_hp (JR 47 133 0 (lv_args 0 [.ref 93, .long 0, .int 0]) [] (j_hp (JR 25 132 0 (lv_args 0 [.ref 93, .ref 20]) [] (j_stf (j_hp (JR 25 128 0 (lv_args 0 [.ref 93]) [] (j_hp (JR 305 127 0 (lv_args 0 [.ref 93, .ref 20]) [] (j_stf jh2 93 14 (.int 1)) 0 0 497 19931)) 0 0 497 19931)) 93 10 (.int 0)) 0 0 497 19931)) 0 0 498 19950)) 99 0 (.long 0)) 100 0 (.int 1)) 0 0 499 19979)) 0 0 499 19976)), ?_, ?_, by decide +kernel⟩
        · refine Eq.trans (jr_s (pc2 := 1) (lv2 := [(0, .ref 9), (1, .int 0), (2, .int 0)]) (st2 := [.int 0]) jF_124_0 rfl rfl) ?_
          refine Eq.trans (jr_if1 jF_124_1 (by decide +kernel)) ?_
          refine Eq.trans (jr_s (pc2 := 12) (lv2 := [(0, .ref 9), (1, .int 0), (2, .int 0)]) (st2 := [.ref 9]) jF_124_11 rfl rfl) ?_
          refine Eq.trans (jr_gf (v := .ref 70) jF_124_12 (by decide +kernel)) ?_
          refine Eq.trans (jr_s (pc2 := 16) (lv2 := [(3, .ref 70), (0, .ref 9), (1, .int 0), (2, .int 0)]) (st2 := []) jF_124_15 rfl rfl) ?_
          refine Eq.trans (jr_s (pc2 := 17) (lv2 := [(3, .ref 70), (0, .ref 9), (1, .int 0), (2, .int 0)]) (st2 := [.ref 9]) jF_124_16 rfl rfl) ?_
          refine Eq.trans (jr_gf (v := .ref 93) jF_124_17 (by decide +kernel)) ?_
          refine Eq.trans (jr_s (pc2 := 21) (lv2 := [(3, .ref 70), (0, .ref 9), (1, .int 0), (2, .int 0)]) (st2 := [.ref 9, .ref 93]) jF_124_20 rfl rfl) ?_
          refine Eq.trans (jr_gf (v := .ref 20) jF_124_21 (by decide +kernel)) ?_
          refine Eq.trans (jr_s (pc2 := 25) (lv2 := [(3, .ref 70), (0, .ref 9), (1, .int 0), (2, .int 0)]) (st2 := [.ref 70, .ref 20, .ref 93]) jF_124_24 rfl rfl) ?_
          refine Eq.trans (jr_gf (v := .long 0) jF_124_25 (by decide +kernel)) ?_
          refine Eq.trans (jr_s (pc2 := 29) (lv2 := [(3, .ref 70), (0, .ref 9), (1, .int 0), (2, .int 0)]) (st2 := [.int 0, .long 0, .ref 20, .ref 93]) jF_124_28 rfl rfl) ?_
          refine Eq.trans (jr_cS (as := [.int 0]) (rest := [.long 0, .ref 20, .ref 93]) (v := some (.int 0)) (hp2 := jh2) (fr2 := 499) (lo2 := 19980) jF_124_29 rfl (show j_cnd 500 20000 499 19980 1 _ _ = true from rfl) ?_) ?_
          · refine Eq.trans (jr_s (pc2 := 1) (lv2 := [(0, .int 0)]) (st2 := [.int 0]) jF_98_0 rfl rfl) ?_
            refine Eq.trans (jr_if1 jF_98_1 (by decide +kernel)) ?_
            refine Eq.trans (jr_s (pc2 := 9) (lv2 := [(0, .int 0)]) (st2 := [.int 0]) jF_98_8 rfl rfl) ?_
            exact jr_ri jF_98_9 rfl
          refine Eq.trans (jr_s (pc2 := 33) (lv2 := [(3, .ref 70), (0, .ref 9), (1, .int 0), (2, .int 0)]) (st2 := [.int 0, .int 0, .long 0, .ref 20, .ref 93]) jF_124_32 rfl rfl) ?_
          refine Eq.trans (jr_cV (a := 93) (as := [.ref 20, .long 0, .int 0, .int 0]) (rest := []) (v := some (.int 0)) (hp2 := (j_stf (j_stf (j_hp (JR 47 133 0 (lv_args 0 [.ref 93, .long 0, .int 0]) [] (j_hp (JR 25 132 0 (lv_args 0 [.ref 93, .ref 20]) [] (j_stf (j_hp (JR 25 128 0 (lv_args 0 [.ref 93]) [] (j_hp (JR 305 127 0 (lv_args 0 [.ref 93, .ref 20]) [] (j_stf jh2 93 14 (.int 1)) 0 0 497 19931)) 0 0 497 19931)) 93 10 (.int 0)) 0 0 497 19931)) 0 0 498 19950)) 99 0 (.long 0)) 100 0 (.int 1))) (fr2 := 499) (lo2 := 19974) jF_124_33 (by decide +kernel) rfl (show j_cnd 500 20000 499 19974 7 _ _ = true from rfl) ?_) ?_
          · exact jr_upl (pl_fewest_2 0) (by omega)
          exact jr_ri jF_124_36 rfl
        · refine Eq.trans (jr_s (pc2 := 1) (lv2 := [(0, .ref 117), (1, .int 0), (2, .int 0)]) (st2 := [.int 0]) jF_294_0 rfl rfl) ?_
          refine Eq.trans (jr_s (pc2 := 2) (lv2 := [(0, .ref 117), (1, .int 0), (2, .int 0)]) (st2 := [.long 0]) jF_294_1 rfl rfl) ?_
          refine Eq.trans (jr_s (pc2 := 3) (lv2 := [(0, .ref 117), (1, .int 0), (2, .int 0)]) (st2 := [.long 0, .long 0]) jF_294_2 rfl rfl) ?_
          refine Eq.trans (jr_s (pc2 := 6) (lv2 := [(0, .ref 117), (1, .int 0), (2, .int 0)]) (st2 := [.long 3, .long 0, .long 0]) jF_294_3 rfl rfl) ?_
          refine Eq.trans (jr_cS (as := [.long 0, .long 0, .long 3]) (rest := []) (v := some (.int 1)) (hp2 := (j_stf (j_stf (j_hp (JR 47 133 0 (lv_args 0 [.ref 93, .long 0, .int 0]) [] (j_hp (JR 25 132 0 (lv_args 0 [.ref 93, .ref 20]) [] (j_stf (j_hp (JR 25 128 0 (lv_args 0 [.ref 93]) [] (j_hp (JR 305 127 0 (lv_args 0 [.ref 93, .ref 20]) [] (j_stf jh2 93 14 (.int 1)) 0 0 497 19931)) 0 0 497 19931)) 93 10 (.int 0)) 0 0 497 19931)) 0 0 498 19950)) 99 0 (.long 0)) 100 0 (.int 1))) (fr2 := 499) (lo2 := 19975) jF_294_6 rfl (show j_cnd 500 20000 499 19975 6 _ _ = true from rfl) ?_) ?_
          · refine Eq.trans (jr_s (pc2 := 1) (lv2 := [(0, .long 0), (2, .long 0), (4, .long 3)]) (st2 := [.long 0]) jF_232_0 rfl rfl) ?_
            refine Eq.trans (jr_s (pc2 := 2) (lv2 := [(0, .long 0), (2, .long 0), (4, .long 3)]) (st2 := [.long 0, .long 0]) jF_232_1 rfl rfl) ?_
            refine Eq.trans (jr_s (pc2 := 3) (lv2 := [(0, .long 0), (2, .long 0), (4, .long 3)]) (st2 := [.int 0]) jF_232_2 rfl rfl) ?_
            refine Eq.trans (jr_if0 jF_232_3 (by decide +kernel)) ?_
            refine Eq.trans (jr_s (pc2 := 7) (lv2 := [(0, .long 0), (2, .long 0), (4, .long 3)]) (st2 := [.long 0]) jF_232_6 rfl rfl) ?_
            refine Eq.trans (jr_s (pc2 := 9) (lv2 := [(0, .long 0), (2, .long 0), (4, .long 3)]) (st2 := [.long 3, .long 0]) jF_232_7 rfl rfl) ?_
            refine Eq.trans (jr_s (pc2 := 10) (lv2 := [(0, .long 0), (2, .long 0), (4, .long 3)]) (st2 := [.int (-1)]) jF_232_9 rfl rfl) ?_
            refine Eq.trans (jr_if0 jF_232_10 (by decide +kernel)) ?_
            refine Eq.trans (jr_s (pc2 := 14) (lv2 := [(0, .long 0), (2, .long 0), (4, .long 3)]) (st2 := [.int 1]) jF_232_13 rfl rfl) ?_
            refine Eq.trans (jr_s (pc2 := 18) (lv2 := [(0, .long 0), (2, .long 0), (4, .long 3)]) (st2 := [.int 1]) jF_232_14 rfl rfl) ?_
            exact jr_ri jF_232_18 rfl
          refine Eq.trans (jr_if1 jF_294_9 (by decide +kernel)) ?_
          refine Eq.trans (jr_s (pc2 := 15) (lv2 := [(0, .ref 117), (1, .int 0), (2, .int 0)]) (st2 := [.ref 117]) jF_294_14 rfl rfl) ?_
          refine Eq.trans (jr_s (pc2 := 16) (lv2 := [(0, .ref 117), (1, .int 0), (2, .int 0)]) (st2 := [.ref 117, .ref 117]) jF_294_15 rfl rfl) ?_
          refine Eq.trans (jr_s (pc2 := 17) (lv2 := [(0, .ref 117), (1, .int 0), (2, .int 0)]) (st2 := [.int 0, .ref 117, .ref 117]) jF_294_16 rfl rfl) ?_
          refine Eq.trans (jr_cS (as := [.int 0]) (rest := [.ref 117, .ref 117]) (v := some (.int 0)) (hp2 := (j_stf (j_stf (j_hp (JR 47 133 0 (lv_args 0 [.ref 93, .long 0, .int 0]) [] (j_hp (JR 25 132 0 (lv_args 0 [.ref 93, .ref 20]) [] (j_stf (j_hp (JR 25 128 0 (lv_args 0 [.ref 93]) [] (j_hp (JR 305 127 0 (lv_args 0 [.ref 93, .ref 20]) [] (j_stf jh2 93 14 (.int 1)) 0 0 497 19931)) 0 0 497 19931)) 93 10 (.int 0)) 0 0 497 19931)) 0 0 498 19950)) 99 0 (.long 0)) 100 0 (.int 1))) (fr2 := 499) (lo2 := 19980) jF_294_17 rfl (show j_cnd 500 20000 499 19980 1 _ _ = true from rfl) ?_) ?_
          · refine Eq.trans (jr_s (pc2 := 1) (lv2 := [(0, .int 0)]) (st2 := [.int 0]) jF_269_0 rfl rfl) ?_
            refine Eq.trans (jr_if1 jF_269_1 (by decide +kernel)) ?_
            refine Eq.trans (jr_s (pc2 := 9) (lv2 := [(0, .int 0)]) (st2 := [.int 0]) jF_269_8 rfl rfl) ?_
            exact jr_ri jF_269_9 rfl
          refine Eq.trans (jr_cV (a := 117) (as := [.int 0]) (rest := [.ref 117]) (v := some (.long 0)) (hp2 := (j_hp (JR 37 277 0 (lv_args 0 [.ref 117, .int 0]) [] (j_stf (j_stf (j_hp (JR 47 133 0 (lv_args 0 [.ref 93, .long 0, .int 0]) [] (j_hp (JR 25 132 0 (lv_args 0 [.ref 93, .ref 20]) [] (j_stf (j_hp (JR 25 128 0 (lv_args 0 [.ref 93]) [] (j_hp (JR 305 127 0 (lv_args 0 [.ref 93, .ref 20]) [] (j_stf jh2 93 14 (.int 1)) 0 0 497 19931)) 0 0 497 19931)) 93 10 (.int 0)) 0 0 497 19931)) 0 0 498 19950)) 99 0 (.long 0)) 100 0 (.int 1)) 0 0 499 19979))) (fr2 := 499) (lo2 := 19979) jF_294_20 (by decide +kernel) rfl (show j_cnd 500 20000 499 19979 2 _ _ = true from rfl) ?_) ?_
          · exact jr_upl (jr_cl (v := some (.long 0)) (by decide +kernel)) (by omega)
          refine Eq.trans (jr_cV (a := 117) (as := [.long 0]) (rest := []) (v := none) (hp2 := (j_hp (JR 25 295 0 (lv_args 0 [.ref 117, .long 0]) [] (j_hp (JR 37 277 0 (lv_args 0 [.ref 117, .int 0]) [] (j_stf (j_stf (j_hp (JR 47 133 0 (lv_args 0 [.ref 93, .long 0, .int 0]) [] (j_hp (JR 25 132 0 (lv_args 0 [.ref 93, .ref 20]) [] (j_stf (j_hp (JR 25 128 0 (lv_args 0 [.ref 93]) [] (j_hp (JR 305 127 0 (lv_args 0 [.ref 93, .ref 20]) [] (j_stf jh2 93 14 (.int 1)) 0 0 497 19931)) 0 0 497 19931)) 93 10 (.int 0)) 0 0 497 19931)) 0 0 498 19950)) 99 0 (.long 0)) 100 0 (.int 1)) 0 0 499 19979)) 0 0 499 19976))) (fr2 := 499) (lo2 := 19976) jF_294_23 (by decide +kernel) rfl (show j_cnd 500 20000 499 19976 5 _ _ = true from rfl) ?_) ?_
          · exact jr_upl (jr_cl (v := none) (by decide +kernel)) (by omega)
          refine Eq.trans (jr_s (pc2 := 27) (lv2 := [(0, .ref 117), (1, .int 0), (2, .int 0)]) (st2 := [.ref 117]) jF_294_26 rfl rfl) ?_
          refine Eq.trans (jr_gf (v := .int 0) jF_294_27 (by decide +kernel)) ?_
          refine Eq.trans (jr_s (pc2 := 31) (lv2 := [(0, .ref 117), (1, .int 0), (2, .int 0)]) (st2 := [.int (-1), .int 0]) jF_294_30 rfl rfl) ?_
          refine Eq.trans (jr_ic1 jF_294_31 (by decide +kernel)) ?_
          refine Eq.trans (jr_s (pc2 := 37) (lv2 := [(0, .ref 117), (1, .int 0), (2, .int 0)]) (st2 := [.int 0]) jF_294_36 rfl rfl) ?_
          refine Eq.trans (jr_s (pc2 := 64) (lv2 := [(0, .ref 117), (1, .int 0), (2, .int 0)]) (st2 := []) jF_294_37 rfl rfl) ?_
          refine Eq.trans (jr_s (pc2 := 65) (lv2 := [(0, .ref 117), (1, .int 0), (2, .int 0)]) (st2 := [.ref 117]) jF_294_64 rfl rfl) ?_
          refine Eq.trans (jr_gf (v := .int 0) jF_294_65 (by decide +kernel)) ?_
          exact jr_ri jF_294_68 rfl
      · rcases j_ilt a2.toInt 2 with h_a2_2 | h_a2_2
        · obtain rfl : a2 = 1 := Int32.toInt_inj.mp (by rw [show (1 : Int32).toInt = 1 from by decide]; omega)
          refine ⟨60000, 60000, 0, (j_stf (j_stf (j_hp (JR 47 133 0 (lv_args 0 [.ref 93, .long 0, .int 0]) [] (j_hp (JR 25 132 0 (lv_args 0 [.ref 93, .ref 20]) [] (j_stf (j_hp (JR 25 128 0 (lv_args 0 [.ref 93]) [] (j_hp (JR 305 127 0 (lv_args 0 [.ref 93, .ref 20]) [] (j_stf jh2 93 14 (.int 1)) 0 0 497 19931)) 0 0 497 19931)) 93 10 (.int 0)) 0 0 497 19931)) 0 0 498 19950)) 99 0 (.long 0)) 100 0 (.int 1)), (j_hp (JR 25 295 0 (lv_args 0 [.ref 117, .long 0]) [] (j_hp (JR 37 277 0 (lv_args 0 [.ref 117, .int 0]) [] (j_stf (j_stf (j_hp (JR 47 133 0 (lv_args 0 [.ref 93, .long 0, .int 0]) [] (j_hp (JR 25 132 0 (lv_args 0 [.ref 93, .ref 20]) [] (j_stf (j_hp (JR 25 128 0 (lv_args 0 [.ref 93]) [] (j_hp (JR 305 127 0 (lv_args 0 [.ref 93, .ref 20]) [] (j_stf jh2 93 14 (.int 1)) 0 0 497 19931)) 0 0 497 19931)) 93 10 (.int 0)) 0 0 497 19931)) 0 0 498 19950)) 99 0 (.long 0)) 100 0 (.int 1)) 0 0 499 19979)) 0 0 499 19976)), ?_, ?_, by decide +kernel⟩
          · refine Eq.trans (jr_s (pc2 := 1) (lv2 := [(0, .ref 9), (1, .int 0), (2, .int 1)]) (st2 := [.int 0]) jF_124_0 rfl rfl) ?_
            refine Eq.trans (jr_if1 jF_124_1 (by decide +kernel)) ?_
            refine Eq.trans (jr_s (pc2 := 12) (lv2 := [(0, .ref 9), (1, .int 0), (2, .int 1)]) (st2 := [.ref 9]) jF_124_11 rfl rfl) ?_
            refine Eq.trans (jr_gf (v := .ref 70) jF_124_12 (by decide +kernel)) ?_
            refine Eq.trans (jr_s (pc2 := 16) (lv2 := [(3, .ref 70), (0, .ref 9), (1, .int 0), (2, .int 1)]) (st2 := []) jF_124_15 rfl rfl) ?_
            refine Eq.trans (jr_s (pc2 := 17) (lv2 := [(3, .ref 70), (0, .ref 9), (1, .int 0), (2, .int 1)]) (st2 := [.ref 9]) jF_124_16 rfl rfl) ?_
            refine Eq.trans (jr_gf (v := .ref 93) jF_124_17 (by decide +kernel)) ?_
            refine Eq.trans (jr_s (pc2 := 21) (lv2 := [(3, .ref 70), (0, .ref 9), (1, .int 0), (2, .int 1)]) (st2 := [.ref 9, .ref 93]) jF_124_20 rfl rfl) ?_
            refine Eq.trans (jr_gf (v := .ref 20) jF_124_21 (by decide +kernel)) ?_
            refine Eq.trans (jr_s (pc2 := 25) (lv2 := [(3, .ref 70), (0, .ref 9), (1, .int 0), (2, .int 1)]) (st2 := [.ref 70, .ref 20, .ref 93]) jF_124_24 rfl rfl) ?_
            refine Eq.trans (jr_gf (v := .long 0) jF_124_25 (by decide +kernel)) ?_
            refine Eq.trans (jr_s (pc2 := 29) (lv2 := [(3, .ref 70), (0, .ref 9), (1, .int 0), (2, .int 1)]) (st2 := [.int 0, .long 0, .ref 20, .ref 93]) jF_124_28 rfl rfl) ?_
            refine Eq.trans (jr_cS (as := [.int 0]) (rest := [.long 0, .ref 20, .ref 93]) (v := some (.int 0)) (hp2 := jh2) (fr2 := 499) (lo2 := 19980) jF_124_29 rfl (show j_cnd 500 20000 499 19980 1 _ _ = true from rfl) ?_) ?_
            · refine Eq.trans (jr_s (pc2 := 1) (lv2 := [(0, .int 0)]) (st2 := [.int 0]) jF_98_0 rfl rfl) ?_
              refine Eq.trans (jr_if1 jF_98_1 (by decide +kernel)) ?_
              refine Eq.trans (jr_s (pc2 := 9) (lv2 := [(0, .int 0)]) (st2 := [.int 0]) jF_98_8 rfl rfl) ?_
              exact jr_ri jF_98_9 rfl
            refine Eq.trans (jr_s (pc2 := 33) (lv2 := [(3, .ref 70), (0, .ref 9), (1, .int 0), (2, .int 1)]) (st2 := [.int 1, .int 0, .long 0, .ref 20, .ref 93]) jF_124_32 rfl rfl) ?_
            refine Eq.trans (jr_cV (a := 93) (as := [.ref 20, .long 0, .int 0, .int 1]) (rest := []) (v := some (.int 0)) (hp2 := (j_stf (j_stf (j_hp (JR 47 133 0 (lv_args 0 [.ref 93, .long 0, .int 0]) [] (j_hp (JR 25 132 0 (lv_args 0 [.ref 93, .ref 20]) [] (j_stf (j_hp (JR 25 128 0 (lv_args 0 [.ref 93]) [] (j_hp (JR 305 127 0 (lv_args 0 [.ref 93, .ref 20]) [] (j_stf jh2 93 14 (.int 1)) 0 0 497 19931)) 0 0 497 19931)) 93 10 (.int 0)) 0 0 497 19931)) 0 0 498 19950)) 99 0 (.long 0)) 100 0 (.int 1))) (fr2 := 499) (lo2 := 19974) jF_124_33 (by decide +kernel) rfl (show j_cnd 500 20000 499 19974 7 _ _ = true from rfl) ?_) ?_
            · exact jr_upl (pl_fewest_3 0) (by omega)
            exact jr_ri jF_124_36 rfl
          · refine Eq.trans (jr_s (pc2 := 1) (lv2 := [(0, .ref 117), (1, .int 0), (2, .int 1)]) (st2 := [.int 1]) jF_294_0 rfl rfl) ?_
            refine Eq.trans (jr_s (pc2 := 2) (lv2 := [(0, .ref 117), (1, .int 0), (2, .int 1)]) (st2 := [.long 1]) jF_294_1 rfl rfl) ?_
            refine Eq.trans (jr_s (pc2 := 3) (lv2 := [(0, .ref 117), (1, .int 0), (2, .int 1)]) (st2 := [.long 0, .long 1]) jF_294_2 rfl rfl) ?_
            refine Eq.trans (jr_s (pc2 := 6) (lv2 := [(0, .ref 117), (1, .int 0), (2, .int 1)]) (st2 := [.long 3, .long 0, .long 1]) jF_294_3 rfl rfl) ?_
            refine Eq.trans (jr_cS (as := [.long 1, .long 0, .long 3]) (rest := []) (v := some (.int 1)) (hp2 := (j_stf (j_stf (j_hp (JR 47 133 0 (lv_args 0 [.ref 93, .long 0, .int 0]) [] (j_hp (JR 25 132 0 (lv_args 0 [.ref 93, .ref 20]) [] (j_stf (j_hp (JR 25 128 0 (lv_args 0 [.ref 93]) [] (j_hp (JR 305 127 0 (lv_args 0 [.ref 93, .ref 20]) [] (j_stf jh2 93 14 (.int 1)) 0 0 497 19931)) 0 0 497 19931)) 93 10 (.int 0)) 0 0 497 19931)) 0 0 498 19950)) 99 0 (.long 0)) 100 0 (.int 1))) (fr2 := 499) (lo2 := 19975) jF_294_6 rfl (show j_cnd 500 20000 499 19975 6 _ _ = true from rfl) ?_) ?_
            · refine Eq.trans (jr_s (pc2 := 1) (lv2 := [(0, .long 1), (2, .long 0), (4, .long 3)]) (st2 := [.long 1]) jF_232_0 rfl rfl) ?_
              refine Eq.trans (jr_s (pc2 := 2) (lv2 := [(0, .long 1), (2, .long 0), (4, .long 3)]) (st2 := [.long 0, .long 1]) jF_232_1 rfl rfl) ?_
              refine Eq.trans (jr_s (pc2 := 3) (lv2 := [(0, .long 1), (2, .long 0), (4, .long 3)]) (st2 := [.int 1]) jF_232_2 rfl rfl) ?_
              refine Eq.trans (jr_if0 jF_232_3 (by decide +kernel)) ?_
              refine Eq.trans (jr_s (pc2 := 7) (lv2 := [(0, .long 1), (2, .long 0), (4, .long 3)]) (st2 := [.long 1]) jF_232_6 rfl rfl) ?_
              refine Eq.trans (jr_s (pc2 := 9) (lv2 := [(0, .long 1), (2, .long 0), (4, .long 3)]) (st2 := [.long 3, .long 1]) jF_232_7 rfl rfl) ?_
              refine Eq.trans (jr_s (pc2 := 10) (lv2 := [(0, .long 1), (2, .long 0), (4, .long 3)]) (st2 := [.int (-1)]) jF_232_9 rfl rfl) ?_
              refine Eq.trans (jr_if0 jF_232_10 (by decide +kernel)) ?_
              refine Eq.trans (jr_s (pc2 := 14) (lv2 := [(0, .long 1), (2, .long 0), (4, .long 3)]) (st2 := [.int 1]) jF_232_13 rfl rfl) ?_
              refine Eq.trans (jr_s (pc2 := 18) (lv2 := [(0, .long 1), (2, .long 0), (4, .long 3)]) (st2 := [.int 1]) jF_232_14 rfl rfl) ?_
              exact jr_ri jF_232_18 rfl
            refine Eq.trans (jr_if1 jF_294_9 (by decide +kernel)) ?_
            refine Eq.trans (jr_s (pc2 := 15) (lv2 := [(0, .ref 117), (1, .int 0), (2, .int 1)]) (st2 := [.ref 117]) jF_294_14 rfl rfl) ?_
            refine Eq.trans (jr_s (pc2 := 16) (lv2 := [(0, .ref 117), (1, .int 0), (2, .int 1)]) (st2 := [.ref 117, .ref 117]) jF_294_15 rfl rfl) ?_
            refine Eq.trans (jr_s (pc2 := 17) (lv2 := [(0, .ref 117), (1, .int 0), (2, .int 1)]) (st2 := [.int 0, .ref 117, .ref 117]) jF_294_16 rfl rfl) ?_
            refine Eq.trans (jr_cS (as := [.int 0]) (rest := [.ref 117, .ref 117]) (v := some (.int 0)) (hp2 := (j_stf (j_stf (j_hp (JR 47 133 0 (lv_args 0 [.ref 93, .long 0, .int 0]) [] (j_hp (JR 25 132 0 (lv_args 0 [.ref 93, .ref 20]) [] (j_stf (j_hp (JR 25 128 0 (lv_args 0 [.ref 93]) [] (j_hp (JR 305 127 0 (lv_args 0 [.ref 93, .ref 20]) [] (j_stf jh2 93 14 (.int 1)) 0 0 497 19931)) 0 0 497 19931)) 93 10 (.int 0)) 0 0 497 19931)) 0 0 498 19950)) 99 0 (.long 0)) 100 0 (.int 1))) (fr2 := 499) (lo2 := 19980) jF_294_17 rfl (show j_cnd 500 20000 499 19980 1 _ _ = true from rfl) ?_) ?_
            · refine Eq.trans (jr_s (pc2 := 1) (lv2 := [(0, .int 0)]) (st2 := [.int 0]) jF_269_0 rfl rfl) ?_
              refine Eq.trans (jr_if1 jF_269_1 (by decide +kernel)) ?_
              refine Eq.trans (jr_s (pc2 := 9) (lv2 := [(0, .int 0)]) (st2 := [.int 0]) jF_269_8 rfl rfl) ?_
              exact jr_ri jF_269_9 rfl
            refine Eq.trans (jr_cV (a := 117) (as := [.int 0]) (rest := [.ref 117]) (v := some (.long 0)) (hp2 := (j_hp (JR 37 277 0 (lv_args 0 [.ref 117, .int 0]) [] (j_stf (j_stf (j_hp (JR 47 133 0 (lv_args 0 [.ref 93, .long 0, .int 0]) [] (j_hp (JR 25 132 0 (lv_args 0 [.ref 93, .ref 20]) [] (j_stf (j_hp (JR 25 128 0 (lv_args 0 [.ref 93]) [] (j_hp (JR 305 127 0 (lv_args 0 [.ref 93, .ref 20]) [] (j_stf jh2 93 14 (.int 1)) 0 0 497 19931)) 0 0 497 19931)) 93 10 (.int 0)) 0 0 497 19931)) 0 0 498 19950)) 99 0 (.long 0)) 100 0 (.int 1)) 0 0 499 19979))) (fr2 := 499) (lo2 := 19979) jF_294_20 (by decide +kernel) rfl (show j_cnd 500 20000 499 19979 2 _ _ = true from rfl) ?_) ?_
            · exact jr_upl (jr_cl (v := some (.long 0)) (by decide +kernel)) (by omega)
            refine Eq.trans (jr_cV (a := 117) (as := [.long 0]) (rest := []) (v := none) (hp2 := (j_hp (JR 25 295 0 (lv_args 0 [.ref 117, .long 0]) [] (j_hp (JR 37 277 0 (lv_args 0 [.ref 117, .int 0]) [] (j_stf (j_stf (j_hp (JR 47 133 0 (lv_args 0 [.ref 93, .long 0, .int 0]) [] (j_hp (JR 25 132 0 (lv_args 0 [.ref 93, .ref 20]) [] (j_stf (j_hp (JR 25 128 0 (lv_args 0 [.ref 93]) [] (j_hp (JR 305 127 0 (lv_args 0 [.ref 93, .ref 20]) [] (j_stf jh2 93 14 (.int 1)) 0 0 497 19931)) 0 0 497 19931)) 93 10 (.int 0)) 0 0 497 19931)) 0 0 498 19950)) 99 0 (.long 0)) 100 0 (.int 1)) 0 0 499 19979)) 0 0 499 19976))) (fr2 := 499) (lo2 := 19976) jF_294_23 (by decide +kernel) rfl (show j_cnd 500 20000 499 19976 5 _ _ = true from rfl) ?_) ?_
            · exact jr_upl (jr_cl (v := none) (by decide +kernel)) (by omega)
            refine Eq.trans (jr_s (pc2 := 27) (lv2 := [(0, .ref 117), (1, .int 0), (2, .int 1)]) (st2 := [.ref 117]) jF_294_26 rfl rfl) ?_
            refine Eq.trans (jr_gf (v := .int 0) jF_294_27 (by decide +kernel)) ?_
            refine Eq.trans (jr_s (pc2 := 31) (lv2 := [(0, .ref 117), (1, .int 0), (2, .int 1)]) (st2 := [.int (-1), .int 0]) jF_294_30 rfl rfl) ?_
            refine Eq.trans (jr_ic1 jF_294_31 (by decide +kernel)) ?_
            refine Eq.trans (jr_s (pc2 := 37) (lv2 := [(0, .ref 117), (1, .int 0), (2, .int 1)]) (st2 := [.int 1]) jF_294_36 rfl rfl) ?_
            refine Eq.trans (jr_s (pc2 := 69) (lv2 := [(0, .ref 117), (1, .int 0), (2, .int 1)]) (st2 := []) jF_294_37 rfl rfl) ?_
            refine Eq.trans (jr_s (pc2 := 70) (lv2 := [(0, .ref 117), (1, .int 0), (2, .int 1)]) (st2 := [.ref 117]) jF_294_69 rfl rfl) ?_
            refine Eq.trans (jr_gf (v := .int (-1)) jF_294_70 (by decide +kernel)) ?_
            refine Eq.trans (jr_s (pc2 := 74) (lv2 := [(0, .ref 117), (1, .int 0), (2, .int 1)]) (st2 := [.int (-1), .int (-1)]) jF_294_73 rfl rfl) ?_
            refine Eq.trans (jr_ic0 jF_294_74 (by decide +kernel)) ?_
            refine Eq.trans (jr_s (pc2 := 78) (lv2 := [(0, .ref 117), (1, .int 0), (2, .int 1)]) (st2 := [.int 0]) jF_294_77 rfl rfl) ?_
            refine Eq.trans (jr_s (pc2 := 94) (lv2 := [(0, .ref 117), (1, .int 0), (2, .int 1)]) (st2 := [.int 0]) jF_294_78 rfl rfl) ?_
            exact jr_ri jF_294_94 rfl
        · rcases j_ilt a2.toInt 3 with h_a2_3 | h_a2_3
          · obtain rfl : a2 = 2 := Int32.toInt_inj.mp (by rw [show (2 : Int32).toInt = 2 from by decide]; omega)
            refine ⟨60000, 60000, (-1), (j_stf (j_stf (j_hp (JR 47 133 0 (lv_args 0 [.ref 93, .long 0, .int 0]) [] (j_hp (JR 25 132 0 (lv_args 0 [.ref 93, .ref 20]) [] (j_stf (j_hp (JR 25 128 0 (lv_args 0 [.ref 93]) [] (j_hp (JR 305 127 0 (lv_args 0 [.ref 93, .ref 20]) [] (j_stf jh2 93 14 (.int 1)) 0 0 497 19931)) 0 0 497 19931)) 93 10 (.int 0)) 0 0 497 19931)) 0 0 498 19950)) 99 0 (.long 0)) 100 0 (.int 1)), (j_hp (JR 25 295 0 (lv_args 0 [.ref 117, .long 0]) [] (j_hp (JR 37 277 0 (lv_args 0 [.ref 117, .int 0]) [] (j_stf (j_stf (j_hp (JR 47 133 0 (lv_args 0 [.ref 93, .long 0, .int 0]) [] (j_hp (JR 25 132 0 (lv_args 0 [.ref 93, .ref 20]) [] (j_stf (j_hp (JR 25 128 0 (lv_args 0 [.ref 93]) [] (j_hp (JR 305 127 0 (lv_args 0 [.ref 93, .ref 20]) [] (j_stf jh2 93 14 (.int 1)) 0 0 497 19931)) 0 0 497 19931)) 93 10 (.int 0)) 0 0 497 19931)) 0 0 498 19950)) 99 0 (.long 0)) 100 0 (.int 1)) 0 0 499 19979)) 0 0 499 19976)), ?_, ?_, by decide +kernel⟩
            · refine Eq.trans (jr_s (pc2 := 1) (lv2 := [(0, .ref 9), (1, .int 0), (2, .int 2)]) (st2 := [.int 0]) jF_124_0 rfl rfl) ?_
              refine Eq.trans (jr_if1 jF_124_1 (by decide +kernel)) ?_
              refine Eq.trans (jr_s (pc2 := 12) (lv2 := [(0, .ref 9), (1, .int 0), (2, .int 2)]) (st2 := [.ref 9]) jF_124_11 rfl rfl) ?_
              refine Eq.trans (jr_gf (v := .ref 70) jF_124_12 (by decide +kernel)) ?_
              refine Eq.trans (jr_s (pc2 := 16) (lv2 := [(3, .ref 70), (0, .ref 9), (1, .int 0), (2, .int 2)]) (st2 := []) jF_124_15 rfl rfl) ?_
              refine Eq.trans (jr_s (pc2 := 17) (lv2 := [(3, .ref 70), (0, .ref 9), (1, .int 0), (2, .int 2)]) (st2 := [.ref 9]) jF_124_16 rfl rfl) ?_
              refine Eq.trans (jr_gf (v := .ref 93) jF_124_17 (by decide +kernel)) ?_
              refine Eq.trans (jr_s (pc2 := 21) (lv2 := [(3, .ref 70), (0, .ref 9), (1, .int 0), (2, .int 2)]) (st2 := [.ref 9, .ref 93]) jF_124_20 rfl rfl) ?_
              refine Eq.trans (jr_gf (v := .ref 20) jF_124_21 (by decide +kernel)) ?_
              refine Eq.trans (jr_s (pc2 := 25) (lv2 := [(3, .ref 70), (0, .ref 9), (1, .int 0), (2, .int 2)]) (st2 := [.ref 70, .ref 20, .ref 93]) jF_124_24 rfl rfl) ?_
              refine Eq.trans (jr_gf (v := .long 0) jF_124_25 (by decide +kernel)) ?_
              refine Eq.trans (jr_s (pc2 := 29) (lv2 := [(3, .ref 70), (0, .ref 9), (1, .int 0), (2, .int 2)]) (st2 := [.int 0, .long 0, .ref 20, .ref 93]) jF_124_28 rfl rfl) ?_
              refine Eq.trans (jr_cS (as := [.int 0]) (rest := [.long 0, .ref 20, .ref 93]) (v := some (.int 0)) (hp2 := jh2) (fr2 := 499) (lo2 := 19980) jF_124_29 rfl (show j_cnd 500 20000 499 19980 1 _ _ = true from rfl) ?_) ?_
              · refine Eq.trans (jr_s (pc2 := 1) (lv2 := [(0, .int 0)]) (st2 := [.int 0]) jF_98_0 rfl rfl) ?_
                refine Eq.trans (jr_if1 jF_98_1 (by decide +kernel)) ?_
                refine Eq.trans (jr_s (pc2 := 9) (lv2 := [(0, .int 0)]) (st2 := [.int 0]) jF_98_8 rfl rfl) ?_
                exact jr_ri jF_98_9 rfl
              refine Eq.trans (jr_s (pc2 := 33) (lv2 := [(3, .ref 70), (0, .ref 9), (1, .int 0), (2, .int 2)]) (st2 := [.int 2, .int 0, .long 0, .ref 20, .ref 93]) jF_124_32 rfl rfl) ?_
              refine Eq.trans (jr_cV (a := 93) (as := [.ref 20, .long 0, .int 0, .int 2]) (rest := []) (v := some (.int (-1))) (hp2 := (j_stf (j_stf (j_hp (JR 47 133 0 (lv_args 0 [.ref 93, .long 0, .int 0]) [] (j_hp (JR 25 132 0 (lv_args 0 [.ref 93, .ref 20]) [] (j_stf (j_hp (JR 25 128 0 (lv_args 0 [.ref 93]) [] (j_hp (JR 305 127 0 (lv_args 0 [.ref 93, .ref 20]) [] (j_stf jh2 93 14 (.int 1)) 0 0 497 19931)) 0 0 497 19931)) 93 10 (.int 0)) 0 0 497 19931)) 0 0 498 19950)) 99 0 (.long 0)) 100 0 (.int 1))) (fr2 := 499) (lo2 := 19974) jF_124_33 (by decide +kernel) rfl (show j_cnd 500 20000 499 19974 7 _ _ = true from rfl) ?_) ?_
              · exact jr_upl (pl_fewest_4 0) (by omega)
              exact jr_ri jF_124_36 rfl
            · refine Eq.trans (jr_s (pc2 := 1) (lv2 := [(0, .ref 117), (1, .int 0), (2, .int 2)]) (st2 := [.int 2]) jF_294_0 rfl rfl) ?_
              refine Eq.trans (jr_s (pc2 := 2) (lv2 := [(0, .ref 117), (1, .int 0), (2, .int 2)]) (st2 := [.long 2]) jF_294_1 rfl rfl) ?_
              refine Eq.trans (jr_s (pc2 := 3) (lv2 := [(0, .ref 117), (1, .int 0), (2, .int 2)]) (st2 := [.long 0, .long 2]) jF_294_2 rfl rfl) ?_
              refine Eq.trans (jr_s (pc2 := 6) (lv2 := [(0, .ref 117), (1, .int 0), (2, .int 2)]) (st2 := [.long 3, .long 0, .long 2]) jF_294_3 rfl rfl) ?_
              refine Eq.trans (jr_cS (as := [.long 2, .long 0, .long 3]) (rest := []) (v := some (.int 1)) (hp2 := (j_stf (j_stf (j_hp (JR 47 133 0 (lv_args 0 [.ref 93, .long 0, .int 0]) [] (j_hp (JR 25 132 0 (lv_args 0 [.ref 93, .ref 20]) [] (j_stf (j_hp (JR 25 128 0 (lv_args 0 [.ref 93]) [] (j_hp (JR 305 127 0 (lv_args 0 [.ref 93, .ref 20]) [] (j_stf jh2 93 14 (.int 1)) 0 0 497 19931)) 0 0 497 19931)) 93 10 (.int 0)) 0 0 497 19931)) 0 0 498 19950)) 99 0 (.long 0)) 100 0 (.int 1))) (fr2 := 499) (lo2 := 19975) jF_294_6 rfl (show j_cnd 500 20000 499 19975 6 _ _ = true from rfl) ?_) ?_
              · refine Eq.trans (jr_s (pc2 := 1) (lv2 := [(0, .long 2), (2, .long 0), (4, .long 3)]) (st2 := [.long 2]) jF_232_0 rfl rfl) ?_
                refine Eq.trans (jr_s (pc2 := 2) (lv2 := [(0, .long 2), (2, .long 0), (4, .long 3)]) (st2 := [.long 0, .long 2]) jF_232_1 rfl rfl) ?_
                refine Eq.trans (jr_s (pc2 := 3) (lv2 := [(0, .long 2), (2, .long 0), (4, .long 3)]) (st2 := [.int 1]) jF_232_2 rfl rfl) ?_
                refine Eq.trans (jr_if0 jF_232_3 (by decide +kernel)) ?_
                refine Eq.trans (jr_s (pc2 := 7) (lv2 := [(0, .long 2), (2, .long 0), (4, .long 3)]) (st2 := [.long 2]) jF_232_6 rfl rfl) ?_
                refine Eq.trans (jr_s (pc2 := 9) (lv2 := [(0, .long 2), (2, .long 0), (4, .long 3)]) (st2 := [.long 3, .long 2]) jF_232_7 rfl rfl) ?_
                refine Eq.trans (jr_s (pc2 := 10) (lv2 := [(0, .long 2), (2, .long 0), (4, .long 3)]) (st2 := [.int (-1)]) jF_232_9 rfl rfl) ?_
                refine Eq.trans (jr_if0 jF_232_10 (by decide +kernel)) ?_
                refine Eq.trans (jr_s (pc2 := 14) (lv2 := [(0, .long 2), (2, .long 0), (4, .long 3)]) (st2 := [.int 1]) jF_232_13 rfl rfl) ?_
                refine Eq.trans (jr_s (pc2 := 18) (lv2 := [(0, .long 2), (2, .long 0), (4, .long 3)]) (st2 := [.int 1]) jF_232_14 rfl rfl) ?_
                exact jr_ri jF_232_18 rfl
              refine Eq.trans (jr_if1 jF_294_9 (by decide +kernel)) ?_
              refine Eq.trans (jr_s (pc2 := 15) (lv2 := [(0, .ref 117), (1, .int 0), (2, .int 2)]) (st2 := [.ref 117]) jF_294_14 rfl rfl) ?_
              refine Eq.trans (jr_s (pc2 := 16) (lv2 := [(0, .ref 117), (1, .int 0), (2, .int 2)]) (st2 := [.ref 117, .ref 117]) jF_294_15 rfl rfl) ?_
              refine Eq.trans (jr_s (pc2 := 17) (lv2 := [(0, .ref 117), (1, .int 0), (2, .int 2)]) (st2 := [.int 0, .ref 117, .ref 117]) jF_294_16 rfl rfl) ?_
              refine Eq.trans (jr_cS (as := [.int 0]) (rest := [.ref 117, .ref 117]) (v := some (.int 0)) (hp2 := (j_stf (j_stf (j_hp (JR 47 133 0 (lv_args 0 [.ref 93, .long 0, .int 0]) [] (j_hp (JR 25 132 0 (lv_args 0 [.ref 93, .ref 20]) [] (j_stf (j_hp (JR 25 128 0 (lv_args 0 [.ref 93]) [] (j_hp (JR 305 127 0 (lv_args 0 [.ref 93, .ref 20]) [] (j_stf jh2 93 14 (.int 1)) 0 0 497 19931)) 0 0 497 19931)) 93 10 (.int 0)) 0 0 497 19931)) 0 0 498 19950)) 99 0 (.long 0)) 100 0 (.int 1))) (fr2 := 499) (lo2 := 19980) jF_294_17 rfl (show j_cnd 500 20000 499 19980 1 _ _ = true from rfl) ?_) ?_
              · refine Eq.trans (jr_s (pc2 := 1) (lv2 := [(0, .int 0)]) (st2 := [.int 0]) jF_269_0 rfl rfl) ?_
                refine Eq.trans (jr_if1 jF_269_1 (by decide +kernel)) ?_
                refine Eq.trans (jr_s (pc2 := 9) (lv2 := [(0, .int 0)]) (st2 := [.int 0]) jF_269_8 rfl rfl) ?_
                exact jr_ri jF_269_9 rfl
              refine Eq.trans (jr_cV (a := 117) (as := [.int 0]) (rest := [.ref 117]) (v := some (.long 0)) (hp2 := (j_hp (JR 37 277 0 (lv_args 0 [.ref 117, .int 0]) [] (j_stf (j_stf (j_hp (JR 47 133 0 (lv_args 0 [.ref 93, .long 0, .int 0]) [] (j_hp (JR 25 132 0 (lv_args 0 [.ref 93, .ref 20]) [] (j_stf (j_hp (JR 25 128 0 (lv_args 0 [.ref 93]) [] (j_hp (JR 305 127 0 (lv_args 0 [.ref 93, .ref 20]) [] (j_stf jh2 93 14 (.int 1)) 0 0 497 19931)) 0 0 497 19931)) 93 10 (.int 0)) 0 0 497 19931)) 0 0 498 19950)) 99 0 (.long 0)) 100 0 (.int 1)) 0 0 499 19979))) (fr2 := 499) (lo2 := 19979) jF_294_20 (by decide +kernel) rfl (show j_cnd 500 20000 499 19979 2 _ _ = true from rfl) ?_) ?_
              · exact jr_upl (jr_cl (v := some (.long 0)) (by decide +kernel)) (by omega)
              refine Eq.trans (jr_cV (a := 117) (as := [.long 0]) (rest := []) (v := none) (hp2 := (j_hp (JR 25 295 0 (lv_args 0 [.ref 117, .long 0]) [] (j_hp (JR 37 277 0 (lv_args 0 [.ref 117, .int 0]) [] (j_stf (j_stf (j_hp (JR 47 133 0 (lv_args 0 [.ref 93, .long 0, .int 0]) [] (j_hp (JR 25 132 0 (lv_args 0 [.ref 93, .ref 20]) [] (j_stf (j_hp (JR 25 128 0 (lv_args 0 [.ref 93]) [] (j_hp (JR 305 127 0 (lv_args 0 [.ref 93, .ref 20]) [] (j_stf jh2 93 14 (.int 1)) 0 0 497 19931)) 0 0 497 19931)) 93 10 (.int 0)) 0 0 497 19931)) 0 0 498 19950)) 99 0 (.long 0)) 100 0 (.int 1)) 0 0 499 19979)) 0 0 499 19976))) (fr2 := 499) (lo2 := 19976) jF_294_23 (by decide +kernel) rfl (show j_cnd 500 20000 499 19976 5 _ _ = true from rfl) ?_) ?_
              · exact jr_upl (jr_cl (v := none) (by decide +kernel)) (by omega)
              refine Eq.trans (jr_s (pc2 := 27) (lv2 := [(0, .ref 117), (1, .int 0), (2, .int 2)]) (st2 := [.ref 117]) jF_294_26 rfl rfl) ?_
              refine Eq.trans (jr_gf (v := .int 0) jF_294_27 (by decide +kernel)) ?_
              refine Eq.trans (jr_s (pc2 := 31) (lv2 := [(0, .ref 117), (1, .int 0), (2, .int 2)]) (st2 := [.int (-1), .int 0]) jF_294_30 rfl rfl) ?_
              refine Eq.trans (jr_ic1 jF_294_31 (by decide +kernel)) ?_
              refine Eq.trans (jr_s (pc2 := 37) (lv2 := [(0, .ref 117), (1, .int 0), (2, .int 2)]) (st2 := [.int 2]) jF_294_36 rfl rfl) ?_
              refine Eq.trans (jr_s (pc2 := 95) (lv2 := [(0, .ref 117), (1, .int 0), (2, .int 2)]) (st2 := []) jF_294_37 rfl rfl) ?_
              refine Eq.trans (jr_s (pc2 := 96) (lv2 := [(0, .ref 117), (1, .int 0), (2, .int 2)]) (st2 := [.ref 117]) jF_294_95 rfl rfl) ?_
              refine Eq.trans (jr_gf (v := .int (-1)) jF_294_96 (by decide +kernel)) ?_
              exact jr_ri jF_294_99 rfl
          · obtain rfl : a2 = 3 := Int32.toInt_inj.mp (by rw [show (3 : Int32).toInt = 3 from by decide]; omega)
            refine ⟨60000, 60000, (-1), (j_stf (j_stf (j_hp (JR 47 133 0 (lv_args 0 [.ref 93, .long 0, .int 0]) [] (j_hp (JR 25 132 0 (lv_args 0 [.ref 93, .ref 20]) [] (j_stf (j_hp (JR 25 128 0 (lv_args 0 [.ref 93]) [] (j_hp (JR 305 127 0 (lv_args 0 [.ref 93, .ref 20]) [] (j_stf jh2 93 14 (.int 1)) 0 0 497 19931)) 0 0 497 19931)) 93 10 (.int 0)) 0 0 497 19931)) 0 0 498 19950)) 99 0 (.long 0)) 100 0 (.int 1)), (j_hp (JR 25 295 0 (lv_args 0 [.ref 117, .long 0]) [] (j_hp (JR 37 277 0 (lv_args 0 [.ref 117, .int 0]) [] (j_stf (j_stf (j_hp (JR 47 133 0 (lv_args 0 [.ref 93, .long 0, .int 0]) [] (j_hp (JR 25 132 0 (lv_args 0 [.ref 93, .ref 20]) [] (j_stf (j_hp (JR 25 128 0 (lv_args 0 [.ref 93]) [] (j_hp (JR 305 127 0 (lv_args 0 [.ref 93, .ref 20]) [] (j_stf jh2 93 14 (.int 1)) 0 0 497 19931)) 0 0 497 19931)) 93 10 (.int 0)) 0 0 497 19931)) 0 0 498 19950)) 99 0 (.long 0)) 100 0 (.int 1)) 0 0 499 19979)) 0 0 499 19976)), ?_, ?_, by decide +kernel⟩
            · refine Eq.trans (jr_s (pc2 := 1) (lv2 := [(0, .ref 9), (1, .int 0), (2, .int 3)]) (st2 := [.int 0]) jF_124_0 rfl rfl) ?_
              refine Eq.trans (jr_if1 jF_124_1 (by decide +kernel)) ?_
              refine Eq.trans (jr_s (pc2 := 12) (lv2 := [(0, .ref 9), (1, .int 0), (2, .int 3)]) (st2 := [.ref 9]) jF_124_11 rfl rfl) ?_
              refine Eq.trans (jr_gf (v := .ref 70) jF_124_12 (by decide +kernel)) ?_
              refine Eq.trans (jr_s (pc2 := 16) (lv2 := [(3, .ref 70), (0, .ref 9), (1, .int 0), (2, .int 3)]) (st2 := []) jF_124_15 rfl rfl) ?_
              refine Eq.trans (jr_s (pc2 := 17) (lv2 := [(3, .ref 70), (0, .ref 9), (1, .int 0), (2, .int 3)]) (st2 := [.ref 9]) jF_124_16 rfl rfl) ?_
              refine Eq.trans (jr_gf (v := .ref 93) jF_124_17 (by decide +kernel)) ?_
              refine Eq.trans (jr_s (pc2 := 21) (lv2 := [(3, .ref 70), (0, .ref 9), (1, .int 0), (2, .int 3)]) (st2 := [.ref 9, .ref 93]) jF_124_20 rfl rfl) ?_
              refine Eq.trans (jr_gf (v := .ref 20) jF_124_21 (by decide +kernel)) ?_
              refine Eq.trans (jr_s (pc2 := 25) (lv2 := [(3, .ref 70), (0, .ref 9), (1, .int 0), (2, .int 3)]) (st2 := [.ref 70, .ref 20, .ref 93]) jF_124_24 rfl rfl) ?_
              refine Eq.trans (jr_gf (v := .long 0) jF_124_25 (by decide +kernel)) ?_
              refine Eq.trans (jr_s (pc2 := 29) (lv2 := [(3, .ref 70), (0, .ref 9), (1, .int 0), (2, .int 3)]) (st2 := [.int 0, .long 0, .ref 20, .ref 93]) jF_124_28 rfl rfl) ?_
              refine Eq.trans (jr_cS (as := [.int 0]) (rest := [.long 0, .ref 20, .ref 93]) (v := some (.int 0)) (hp2 := jh2) (fr2 := 499) (lo2 := 19980) jF_124_29 rfl (show j_cnd 500 20000 499 19980 1 _ _ = true from rfl) ?_) ?_
              · refine Eq.trans (jr_s (pc2 := 1) (lv2 := [(0, .int 0)]) (st2 := [.int 0]) jF_98_0 rfl rfl) ?_
                refine Eq.trans (jr_if1 jF_98_1 (by decide +kernel)) ?_
                refine Eq.trans (jr_s (pc2 := 9) (lv2 := [(0, .int 0)]) (st2 := [.int 0]) jF_98_8 rfl rfl) ?_
                exact jr_ri jF_98_9 rfl
              refine Eq.trans (jr_s (pc2 := 33) (lv2 := [(3, .ref 70), (0, .ref 9), (1, .int 0), (2, .int 3)]) (st2 := [.int 3, .int 0, .long 0, .ref 20, .ref 93]) jF_124_32 rfl rfl) ?_
              refine Eq.trans (jr_cV (a := 93) (as := [.ref 20, .long 0, .int 0, .int 3]) (rest := []) (v := some (.int (-1))) (hp2 := (j_stf (j_stf (j_hp (JR 47 133 0 (lv_args 0 [.ref 93, .long 0, .int 0]) [] (j_hp (JR 25 132 0 (lv_args 0 [.ref 93, .ref 20]) [] (j_stf (j_hp (JR 25 128 0 (lv_args 0 [.ref 93]) [] (j_hp (JR 305 127 0 (lv_args 0 [.ref 93, .ref 20]) [] (j_stf jh2 93 14 (.int 1)) 0 0 497 19931)) 0 0 497 19931)) 93 10 (.int 0)) 0 0 497 19931)) 0 0 498 19950)) 99 0 (.long 0)) 100 0 (.int 1))) (fr2 := 499) (lo2 := 19974) jF_124_33 (by decide +kernel) rfl (show j_cnd 500 20000 499 19974 7 _ _ = true from rfl) ?_) ?_
              · exact jr_upl (pl_fewest_5 0) (by omega)
              exact jr_ri jF_124_36 rfl
            · refine Eq.trans (jr_s (pc2 := 1) (lv2 := [(0, .ref 117), (1, .int 0), (2, .int 3)]) (st2 := [.int 3]) jF_294_0 rfl rfl) ?_
              refine Eq.trans (jr_s (pc2 := 2) (lv2 := [(0, .ref 117), (1, .int 0), (2, .int 3)]) (st2 := [.long 3]) jF_294_1 rfl rfl) ?_
              refine Eq.trans (jr_s (pc2 := 3) (lv2 := [(0, .ref 117), (1, .int 0), (2, .int 3)]) (st2 := [.long 0, .long 3]) jF_294_2 rfl rfl) ?_
              refine Eq.trans (jr_s (pc2 := 6) (lv2 := [(0, .ref 117), (1, .int 0), (2, .int 3)]) (st2 := [.long 3, .long 0, .long 3]) jF_294_3 rfl rfl) ?_
              refine Eq.trans (jr_cS (as := [.long 3, .long 0, .long 3]) (rest := []) (v := some (.int 1)) (hp2 := (j_stf (j_stf (j_hp (JR 47 133 0 (lv_args 0 [.ref 93, .long 0, .int 0]) [] (j_hp (JR 25 132 0 (lv_args 0 [.ref 93, .ref 20]) [] (j_stf (j_hp (JR 25 128 0 (lv_args 0 [.ref 93]) [] (j_hp (JR 305 127 0 (lv_args 0 [.ref 93, .ref 20]) [] (j_stf jh2 93 14 (.int 1)) 0 0 497 19931)) 0 0 497 19931)) 93 10 (.int 0)) 0 0 497 19931)) 0 0 498 19950)) 99 0 (.long 0)) 100 0 (.int 1))) (fr2 := 499) (lo2 := 19975) jF_294_6 rfl (show j_cnd 500 20000 499 19975 6 _ _ = true from rfl) ?_) ?_
              · refine Eq.trans (jr_s (pc2 := 1) (lv2 := [(0, .long 3), (2, .long 0), (4, .long 3)]) (st2 := [.long 3]) jF_232_0 rfl rfl) ?_
                refine Eq.trans (jr_s (pc2 := 2) (lv2 := [(0, .long 3), (2, .long 0), (4, .long 3)]) (st2 := [.long 0, .long 3]) jF_232_1 rfl rfl) ?_
                refine Eq.trans (jr_s (pc2 := 3) (lv2 := [(0, .long 3), (2, .long 0), (4, .long 3)]) (st2 := [.int 1]) jF_232_2 rfl rfl) ?_
                refine Eq.trans (jr_if0 jF_232_3 (by decide +kernel)) ?_
                refine Eq.trans (jr_s (pc2 := 7) (lv2 := [(0, .long 3), (2, .long 0), (4, .long 3)]) (st2 := [.long 3]) jF_232_6 rfl rfl) ?_
                refine Eq.trans (jr_s (pc2 := 9) (lv2 := [(0, .long 3), (2, .long 0), (4, .long 3)]) (st2 := [.long 3, .long 3]) jF_232_7 rfl rfl) ?_
                refine Eq.trans (jr_s (pc2 := 10) (lv2 := [(0, .long 3), (2, .long 0), (4, .long 3)]) (st2 := [.int 0]) jF_232_9 rfl rfl) ?_
                refine Eq.trans (jr_if0 jF_232_10 (by decide +kernel)) ?_
                refine Eq.trans (jr_s (pc2 := 14) (lv2 := [(0, .long 3), (2, .long 0), (4, .long 3)]) (st2 := [.int 1]) jF_232_13 rfl rfl) ?_
                refine Eq.trans (jr_s (pc2 := 18) (lv2 := [(0, .long 3), (2, .long 0), (4, .long 3)]) (st2 := [.int 1]) jF_232_14 rfl rfl) ?_
                exact jr_ri jF_232_18 rfl
              refine Eq.trans (jr_if1 jF_294_9 (by decide +kernel)) ?_
              refine Eq.trans (jr_s (pc2 := 15) (lv2 := [(0, .ref 117), (1, .int 0), (2, .int 3)]) (st2 := [.ref 117]) jF_294_14 rfl rfl) ?_
              refine Eq.trans (jr_s (pc2 := 16) (lv2 := [(0, .ref 117), (1, .int 0), (2, .int 3)]) (st2 := [.ref 117, .ref 117]) jF_294_15 rfl rfl) ?_
              refine Eq.trans (jr_s (pc2 := 17) (lv2 := [(0, .ref 117), (1, .int 0), (2, .int 3)]) (st2 := [.int 0, .ref 117, .ref 117]) jF_294_16 rfl rfl) ?_
              refine Eq.trans (jr_cS (as := [.int 0]) (rest := [.ref 117, .ref 117]) (v := some (.int 0)) (hp2 := (j_stf (j_stf (j_hp (JR 47 133 0 (lv_args 0 [.ref 93, .long 0, .int 0]) [] (j_hp (JR 25 132 0 (lv_args 0 [.ref 93, .ref 20]) [] (j_stf (j_hp (JR 25 128 0 (lv_args 0 [.ref 93]) [] (j_hp (JR 305 127 0 (lv_args 0 [.ref 93, .ref 20]) [] (j_stf jh2 93 14 (.int 1)) 0 0 497 19931)) 0 0 497 19931)) 93 10 (.int 0)) 0 0 497 19931)) 0 0 498 19950)) 99 0 (.long 0)) 100 0 (.int 1))) (fr2 := 499) (lo2 := 19980) jF_294_17 rfl (show j_cnd 500 20000 499 19980 1 _ _ = true from rfl) ?_) ?_
              · refine Eq.trans (jr_s (pc2 := 1) (lv2 := [(0, .int 0)]) (st2 := [.int 0]) jF_269_0 rfl rfl) ?_
                refine Eq.trans (jr_if1 jF_269_1 (by decide +kernel)) ?_
                refine Eq.trans (jr_s (pc2 := 9) (lv2 := [(0, .int 0)]) (st2 := [.int 0]) jF_269_8 rfl rfl) ?_
                exact jr_ri jF_269_9 rfl
              refine Eq.trans (jr_cV (a := 117) (as := [.int 0]) (rest := [.ref 117]) (v := some (.long 0)) (hp2 := (j_hp (JR 37 277 0 (lv_args 0 [.ref 117, .int 0]) [] (j_stf (j_stf (j_hp (JR 47 133 0 (lv_args 0 [.ref 93, .long 0, .int 0]) [] (j_hp (JR 25 132 0 (lv_args 0 [.ref 93, .ref 20]) [] (j_stf (j_hp (JR 25 128 0 (lv_args 0 [.ref 93]) [] (j_hp (JR 305 127 0 (lv_args 0 [.ref 93, .ref 20]) [] (j_stf jh2 93 14 (.int 1)) 0 0 497 19931)) 0 0 497 19931)) 93 10 (.int 0)) 0 0 497 19931)) 0 0 498 19950)) 99 0 (.long 0)) 100 0 (.int 1)) 0 0 499 19979))) (fr2 := 499) (lo2 := 19979) jF_294_20 (by decide +kernel) rfl (show j_cnd 500 20000 499 19979 2 _ _ = true from rfl) ?_) ?_
              · exact jr_upl (jr_cl (v := some (.long 0)) (by decide +kernel)) (by omega)
              refine Eq.trans (jr_cV (a := 117) (as := [.long 0]) (rest := []) (v := none) (hp2 := (j_hp (JR 25 295 0 (lv_args 0 [.ref 117, .long 0]) [] (j_hp (JR 37 277 0 (lv_args 0 [.ref 117, .int 0]) [] (j_stf (j_stf (j_hp (JR 47 133 0 (lv_args 0 [.ref 93, .long 0, .int 0]) [] (j_hp (JR 25 132 0 (lv_args 0 [.ref 93, .ref 20]) [] (j_stf (j_hp (JR 25 128 0 (lv_args 0 [.ref 93]) [] (j_hp (JR 305 127 0 (lv_args 0 [.ref 93, .ref 20]) [] (j_stf jh2 93 14 (.int 1)) 0 0 497 19931)) 0 0 497 19931)) 93 10 (.int 0)) 0 0 497 19931)) 0 0 498 19950)) 99 0 (.long 0)) 100 0 (.int 1)) 0 0 499 19979)) 0 0 499 19976))) (fr2 := 499) (lo2 := 19976) jF_294_23 (by decide +kernel) rfl (show j_cnd 500 20000 499 19976 5 _ _ = true from rfl) ?_) ?_
              · exact jr_upl (jr_cl (v := none) (by decide +kernel)) (by omega)
              refine Eq.trans (jr_s (pc2 := 27) (lv2 := [(0, .ref 117), (1, .int 0), (2, .int 3)]) (st2 := [.ref 117]) jF_294_26 rfl rfl) ?_
              refine Eq.trans (jr_gf (v := .int 0) jF_294_27 (by decide +kernel)) ?_
              refine Eq.trans (jr_s (pc2 := 31) (lv2 := [(0, .ref 117), (1, .int 0), (2, .int 3)]) (st2 := [.int (-1), .int 0]) jF_294_30 rfl rfl) ?_
              refine Eq.trans (jr_ic1 jF_294_31 (by decide +kernel)) ?_
              refine Eq.trans (jr_s (pc2 := 37) (lv2 := [(0, .ref 117), (1, .int 0), (2, .int 3)]) (st2 := [.int 3]) jF_294_36 rfl rfl) ?_
              refine Eq.trans (jr_s (pc2 := 100) (lv2 := [(0, .ref 117), (1, .int 0), (2, .int 3)]) (st2 := []) jF_294_37 rfl rfl) ?_
              refine Eq.trans (jr_s (pc2 := 101) (lv2 := [(0, .ref 117), (1, .int 0), (2, .int 3)]) (st2 := [.ref 117]) jF_294_100 rfl rfl) ?_
              refine Eq.trans (jr_gf (v := .int (-1)) jF_294_101 (by decide +kernel)) ?_
              exact jr_ri jF_294_104 rfl
    · refine ⟨60000, 60000, (-1), jh2, jh2, ?_, ?_, by decide +kernel⟩
      · refine Eq.trans (jr_s (pc2 := 1) (lv2 := [(0, .ref 9), (1, .int 0), (2, .int a2)]) (st2 := [.int 0]) jF_124_0 rfl rfl) ?_
        refine Eq.trans (jr_if1 jF_124_1 (by decide +kernel)) ?_
        refine Eq.trans (jr_s (pc2 := 12) (lv2 := [(0, .ref 9), (1, .int 0), (2, .int a2)]) (st2 := [.ref 9]) jF_124_11 rfl rfl) ?_
        refine Eq.trans (jr_gf (v := .ref 70) jF_124_12 (by decide +kernel)) ?_
        refine Eq.trans (jr_s (pc2 := 16) (lv2 := [(3, .ref 70), (0, .ref 9), (1, .int 0), (2, .int a2)]) (st2 := []) jF_124_15 rfl rfl) ?_
        refine Eq.trans (jr_s (pc2 := 17) (lv2 := [(3, .ref 70), (0, .ref 9), (1, .int 0), (2, .int a2)]) (st2 := [.ref 9]) jF_124_16 rfl rfl) ?_
        refine Eq.trans (jr_gf (v := .ref 93) jF_124_17 (by decide +kernel)) ?_
        refine Eq.trans (jr_s (pc2 := 21) (lv2 := [(3, .ref 70), (0, .ref 9), (1, .int 0), (2, .int a2)]) (st2 := [.ref 9, .ref 93]) jF_124_20 rfl rfl) ?_
        refine Eq.trans (jr_gf (v := .ref 20) jF_124_21 (by decide +kernel)) ?_
        refine Eq.trans (jr_s (pc2 := 25) (lv2 := [(3, .ref 70), (0, .ref 9), (1, .int 0), (2, .int a2)]) (st2 := [.ref 70, .ref 20, .ref 93]) jF_124_24 rfl rfl) ?_
        refine Eq.trans (jr_gf (v := .long 0) jF_124_25 (by decide +kernel)) ?_
        refine Eq.trans (jr_s (pc2 := 29) (lv2 := [(3, .ref 70), (0, .ref 9), (1, .int 0), (2, .int a2)]) (st2 := [.int 0, .long 0, .ref 20, .ref 93]) jF_124_28 rfl rfl) ?_
        refine Eq.trans (jr_cS (as := [.int 0]) (rest := [.long 0, .ref 20, .ref 93]) (v := some (.int 0)) (hp2 := jh2) (fr2 := 499) (lo2 := 19980) jF_124_29 rfl (show j_cnd 500 20000 499 19980 1 _ _ = true from rfl) ?_) ?_
        · refine Eq.trans (jr_s (pc2 := 1) (lv2 := [(0, .int 0)]) (st2 := [.int 0]) jF_98_0 rfl rfl) ?_
          refine Eq.trans (jr_if1 jF_98_1 (by decide +kernel)) ?_
          refine Eq.trans (jr_s (pc2 := 9) (lv2 := [(0, .int 0)]) (st2 := [.int 0]) jF_98_8 rfl rfl) ?_
          exact jr_ri jF_98_9 rfl
        refine Eq.trans (jr_s (pc2 := 33) (lv2 := [(3, .ref 70), (0, .ref 9), (1, .int 0), (2, .int a2)]) (st2 := [.int a2, .int 0, .long 0, .ref 20, .ref 93]) jF_124_32 rfl rfl) ?_
        refine Eq.trans (jr_cV (a := 93) (as := [.ref 20, .long 0, .int 0, .int a2]) (rest := []) (v := some (.int (-1))) (hp2 := jh2) (fr2 := 499) (lo2 := 19974) jF_124_33 (by decide +kernel) rfl (show j_cnd 500 20000 499 19974 7 _ _ = true from rfl) ?_) ?_
        · refine Eq.trans (jr_s (pc2 := 2) (lv2 := [(0, .ref 93), (1, .ref 20), (2, .long 0), (4, .int 0), (5, .int a2)]) (st2 := [.int a2]) jF_125_0 rfl rfl) ?_
          refine Eq.trans (jr_if0 jF_125_2 (jk_lt_ge (show (0 : Int32).toInt ≤ (a2 : Int32).toInt by rw [show (0 : Int32).toInt = 0 from by decide]; omega))) ?_
          refine Eq.trans (jr_s (pc2 := 7) (lv2 := [(0, .ref 93), (1, .ref 20), (2, .long 0), (4, .int 0), (5, .int a2)]) (st2 := [.int a2]) jF_125_5 rfl rfl) ?_
          refine Eq.trans (jr_s (pc2 := 8) (lv2 := [(0, .ref 93), (1, .ref 20), (2, .long 0), (4, .int 0), (5, .int a2)]) (st2 := [.int 4, .int a2]) jF_125_7 rfl rfl) ?_
          refine Eq.trans (jr_ic1 jF_125_8 (jk_ge_ge (show (4 : Int32).toInt ≤ (a2 : Int32).toInt by rw [show (4 : Int32).toInt = 4 from by decide]; omega))) ?_
          refine Eq.trans (jr_s (pc2 := 27) (lv2 := [(0, .ref 93), (1, .ref 20), (2, .long 0), (4, .int 0), (5, .int a2)]) (st2 := [.int (-1)]) jF_125_26 rfl rfl) ?_
          exact jr_ri jF_125_27 rfl
        exact jr_ri jF_124_36 rfl
      · refine Eq.trans (jr_s (pc2 := 1) (lv2 := [(0, .ref 117), (1, .int 0), (2, .int a2)]) (st2 := [.int a2]) jF_294_0 rfl rfl) ?_
        refine Eq.trans (jr_s (pc2 := 2) (lv2 := [(0, .ref 117), (1, .int 0), (2, .int a2)]) (st2 := [.long (Int32.toInt64 a2)]) jF_294_1 rfl rfl) ?_
        refine Eq.trans (jr_s (pc2 := 3) (lv2 := [(0, .ref 117), (1, .int 0), (2, .int a2)]) (st2 := [.long 0, .long (Int32.toInt64 a2)]) jF_294_2 rfl rfl) ?_
        refine Eq.trans (jr_s (pc2 := 6) (lv2 := [(0, .ref 117), (1, .int 0), (2, .int a2)]) (st2 := [.long 3, .long 0, .long (Int32.toInt64 a2)]) jF_294_3 rfl rfl) ?_
        refine Eq.trans (jr_cS (as := [.long (Int32.toInt64 a2), .long 0, .long 3]) (rest := []) (v := some (.int 0)) (hp2 := jh2) (fr2 := 499) (lo2 := 19975) jF_294_6 rfl (show j_cnd 500 20000 499 19975 6 _ _ = true from rfl) ?_) ?_
        · refine Eq.trans (jr_s (pc2 := 1) (lv2 := [(0, .long (Int32.toInt64 a2)), (2, .long 0), (4, .long 3)]) (st2 := [.long (Int32.toInt64 a2)]) jF_232_0 rfl rfl) ?_
          refine Eq.trans (jr_s (pc2 := 2) (lv2 := [(0, .long (Int32.toInt64 a2)), (2, .long 0), (4, .long 3)]) (st2 := [.long 0, .long (Int32.toInt64 a2)]) jF_232_1 rfl rfl) ?_
          refine Eq.trans (jr_s (pc2 := 3) (lv2 := [(0, .long (Int32.toInt64 a2)), (2, .long 0), (4, .long 3)]) (st2 := [.int (lg_cmp (Int32.toInt64 a2) 0)]) jF_232_2 rfl rfl) ?_
          refine Eq.trans (jr_if0 jF_232_3 (jkl_lt_ge (show (0 : Int64).toInt ≤ ((Int32.toInt64 a2) : Int64).toInt by rw [Int32.toInt_toInt64, show (0 : Int64).toInt = 0 from by decide]; omega))) ?_
          refine Eq.trans (jr_s (pc2 := 7) (lv2 := [(0, .long (Int32.toInt64 a2)), (2, .long 0), (4, .long 3)]) (st2 := [.long (Int32.toInt64 a2)]) jF_232_6 rfl rfl) ?_
          refine Eq.trans (jr_s (pc2 := 9) (lv2 := [(0, .long (Int32.toInt64 a2)), (2, .long 0), (4, .long 3)]) (st2 := [.long 3, .long (Int32.toInt64 a2)]) jF_232_7 rfl rfl) ?_
          refine Eq.trans (jr_s (pc2 := 10) (lv2 := [(0, .long (Int32.toInt64 a2)), (2, .long 0), (4, .long 3)]) (st2 := [.int (lg_cmp (Int32.toInt64 a2) 3)]) jF_232_9 rfl rfl) ?_
          refine Eq.trans (jr_if1 jF_232_10 (jkl_gt_gt (show (3 : Int64).toInt < ((Int32.toInt64 a2) : Int64).toInt by rw [Int32.toInt_toInt64, show (3 : Int64).toInt = 3 from by decide]; omega))) ?_
          refine Eq.trans (jr_s (pc2 := 18) (lv2 := [(0, .long (Int32.toInt64 a2)), (2, .long 0), (4, .long 3)]) (st2 := [.int 0]) jF_232_17 rfl rfl) ?_
          exact jr_ri jF_232_18 rfl
        refine Eq.trans (jr_if0 jF_294_9 (by decide +kernel)) ?_
        refine Eq.trans (jr_s (pc2 := 13) (lv2 := [(0, .ref 117), (1, .int 0), (2, .int a2)]) (st2 := [.int (-1)]) jF_294_12 rfl rfl) ?_
        exact jr_ri jF_294_13 rfl
set_option maxHeartbeats 8000000 in
set_option maxRecDepth 100000 in
theorem pm_fewest_1 (a2 : Int32) : PM 124 294 [.int 1, .int a2] := by
  have ub_a2 := Int32.toInt_lt a2
  have lb_a2 := Int32.le_toInt a2
  rcases j_ilt a2.toInt 0 with h_a2_0 | h_a2_0
  · refine ⟨60000, 60000, (-1), jh2, jh2, ?_, ?_, by decide +kernel⟩
    · refine Eq.trans (jr_s (pc2 := 1) (lv2 := [(0, .ref 9), (1, .int 1), (2, .int a2)]) (st2 := [.int 1]) jF_124_0 rfl rfl) ?_
      refine Eq.trans (jr_if0 jF_124_1 (by decide +kernel)) ?_
      refine Eq.trans (jr_s (pc2 := 5) (lv2 := [(0, .ref 9), (1, .int 1), (2, .int a2)]) (st2 := [.ref 9]) jF_124_4 rfl rfl) ?_
      refine Eq.trans (jr_gf (v := .ref 75) jF_124_5 (by decide +kernel)) ?_
      refine Eq.trans (jr_s (pc2 := 15) (lv2 := [(0, .ref 9), (1, .int 1), (2, .int a2)]) (st2 := [.ref 75]) jF_124_8 rfl rfl) ?_
      refine Eq.trans (jr_s (pc2 := 16) (lv2 := [(3, .ref 75), (0, .ref 9), (1, .int 1), (2, .int a2)]) (st2 := []) jF_124_15 rfl rfl) ?_
      refine Eq.trans (jr_s (pc2 := 17) (lv2 := [(3, .ref 75), (0, .ref 9), (1, .int 1), (2, .int a2)]) (st2 := [.ref 9]) jF_124_16 rfl rfl) ?_
      refine Eq.trans (jr_gf (v := .ref 93) jF_124_17 (by decide +kernel)) ?_
      refine Eq.trans (jr_s (pc2 := 21) (lv2 := [(3, .ref 75), (0, .ref 9), (1, .int 1), (2, .int a2)]) (st2 := [.ref 9, .ref 93]) jF_124_20 rfl rfl) ?_
      refine Eq.trans (jr_gf (v := .ref 20) jF_124_21 (by decide +kernel)) ?_
      refine Eq.trans (jr_s (pc2 := 25) (lv2 := [(3, .ref 75), (0, .ref 9), (1, .int 1), (2, .int a2)]) (st2 := [.ref 75, .ref 20, .ref 93]) jF_124_24 rfl rfl) ?_
      refine Eq.trans (jr_gf (v := .long 0) jF_124_25 (by decide +kernel)) ?_
      refine Eq.trans (jr_s (pc2 := 29) (lv2 := [(3, .ref 75), (0, .ref 9), (1, .int 1), (2, .int a2)]) (st2 := [.int 1, .long 0, .ref 20, .ref 93]) jF_124_28 rfl rfl) ?_
      refine Eq.trans (jr_cS (as := [.int 1]) (rest := [.long 0, .ref 20, .ref 93]) (v := some (.int 1)) (hp2 := jh2) (fr2 := 499) (lo2 := 19980) jF_124_29 rfl (show j_cnd 500 20000 499 19980 1 _ _ = true from rfl) ?_) ?_
      · refine Eq.trans (jr_s (pc2 := 1) (lv2 := [(0, .int 1)]) (st2 := [.int 1]) jF_98_0 rfl rfl) ?_
        refine Eq.trans (jr_if0 jF_98_1 (by decide +kernel)) ?_
        refine Eq.trans (jr_s (pc2 := 5) (lv2 := [(0, .int 1)]) (st2 := [.int 1]) jF_98_4 rfl rfl) ?_
        refine Eq.trans (jr_s (pc2 := 9) (lv2 := [(0, .int 1)]) (st2 := [.int 1]) jF_98_5 rfl rfl) ?_
        exact jr_ri jF_98_9 rfl
      refine Eq.trans (jr_s (pc2 := 33) (lv2 := [(3, .ref 75), (0, .ref 9), (1, .int 1), (2, .int a2)]) (st2 := [.int a2, .int 1, .long 0, .ref 20, .ref 93]) jF_124_32 rfl rfl) ?_
      refine Eq.trans (jr_cV (a := 93) (as := [.ref 20, .long 0, .int 1, .int a2]) (rest := []) (v := some (.int (-1))) (hp2 := jh2) (fr2 := 499) (lo2 := 19974) jF_124_33 (by decide +kernel) rfl (show j_cnd 500 20000 499 19974 7 _ _ = true from rfl) ?_) ?_
      · refine Eq.trans (jr_s (pc2 := 2) (lv2 := [(0, .ref 93), (1, .ref 20), (2, .long 0), (4, .int 1), (5, .int a2)]) (st2 := [.int a2]) jF_125_0 rfl rfl) ?_
        refine Eq.trans (jr_if1 jF_125_2 (jk_lt_lt (show (a2 : Int32).toInt < (0 : Int32).toInt by rw [show (0 : Int32).toInt = 0 from by decide]; omega))) ?_
        refine Eq.trans (jr_s (pc2 := 27) (lv2 := [(0, .ref 93), (1, .ref 20), (2, .long 0), (4, .int 1), (5, .int a2)]) (st2 := [.int (-1)]) jF_125_26 rfl rfl) ?_
        exact jr_ri jF_125_27 rfl
      exact jr_ri jF_124_36 rfl
    · refine Eq.trans (jr_s (pc2 := 1) (lv2 := [(0, .ref 117), (1, .int 1), (2, .int a2)]) (st2 := [.int a2]) jF_294_0 rfl rfl) ?_
      refine Eq.trans (jr_s (pc2 := 2) (lv2 := [(0, .ref 117), (1, .int 1), (2, .int a2)]) (st2 := [.long (Int32.toInt64 a2)]) jF_294_1 rfl rfl) ?_
      refine Eq.trans (jr_s (pc2 := 3) (lv2 := [(0, .ref 117), (1, .int 1), (2, .int a2)]) (st2 := [.long 0, .long (Int32.toInt64 a2)]) jF_294_2 rfl rfl) ?_
      refine Eq.trans (jr_s (pc2 := 6) (lv2 := [(0, .ref 117), (1, .int 1), (2, .int a2)]) (st2 := [.long 3, .long 0, .long (Int32.toInt64 a2)]) jF_294_3 rfl rfl) ?_
      refine Eq.trans (jr_cS (as := [.long (Int32.toInt64 a2), .long 0, .long 3]) (rest := []) (v := some (.int 0)) (hp2 := jh2) (fr2 := 499) (lo2 := 19975) jF_294_6 rfl (show j_cnd 500 20000 499 19975 6 _ _ = true from rfl) ?_) ?_
      · refine Eq.trans (jr_s (pc2 := 1) (lv2 := [(0, .long (Int32.toInt64 a2)), (2, .long 0), (4, .long 3)]) (st2 := [.long (Int32.toInt64 a2)]) jF_232_0 rfl rfl) ?_
        refine Eq.trans (jr_s (pc2 := 2) (lv2 := [(0, .long (Int32.toInt64 a2)), (2, .long 0), (4, .long 3)]) (st2 := [.long 0, .long (Int32.toInt64 a2)]) jF_232_1 rfl rfl) ?_
        refine Eq.trans (jr_s (pc2 := 3) (lv2 := [(0, .long (Int32.toInt64 a2)), (2, .long 0), (4, .long 3)]) (st2 := [.int (lg_cmp (Int32.toInt64 a2) 0)]) jF_232_2 rfl rfl) ?_
        refine Eq.trans (jr_if1 jF_232_3 (jkl_lt_lt (show ((Int32.toInt64 a2) : Int64).toInt < (0 : Int64).toInt by rw [Int32.toInt_toInt64, show (0 : Int64).toInt = 0 from by decide]; omega))) ?_
        refine Eq.trans (jr_s (pc2 := 18) (lv2 := [(0, .long (Int32.toInt64 a2)), (2, .long 0), (4, .long 3)]) (st2 := [.int 0]) jF_232_17 rfl rfl) ?_
        exact jr_ri jF_232_18 rfl
      refine Eq.trans (jr_if0 jF_294_9 (by decide +kernel)) ?_
      refine Eq.trans (jr_s (pc2 := 13) (lv2 := [(0, .ref 117), (1, .int 1), (2, .int a2)]) (st2 := [.int (-1)]) jF_294_12 rfl rfl) ?_
      exact jr_ri jF_294_13 rfl
  · rcases j_ilt a2.toInt 4 with h_a2_4 | h_a2_4
    · rcases j_ilt a2.toInt 1 with h_a2_1 | h_a2_1
      · obtain rfl : a2 = 0 := Int32.toInt_inj.mp (by rw [show (0 : Int32).toInt = 0 from by decide]; omega)
        refine ⟨60000, 60000, 0, (j_stf (j_stf (j_hp (JR 47 133 0 (lv_args 0 [.ref 93, .long 0, .int 4]) [] (j_hp (JR 25 132 0 (lv_args 0 [.ref 93, .ref 20]) [] (j_stf (j_hp (JR 25 128 0 (lv_args 0 [.ref 93]) [] (j_hp (JR 305 127 0 (lv_args 0 [.ref 93, .ref 20]) [] (j_stf jh2 93 14 (.int 1)) 0 0 497 19931)) 0 0 497 19931)) 93 10 (.int 0)) 0 0 497 19931)) 0 0 498 19950)) 99 1 (.long 0)) 100 1 (.int 1)), (j_hp (JR 25 295 0 (lv_args 0 [.ref 117, .long 0]) [] (j_hp (JR 37 277 0 (lv_args 0 [.ref 117, .int 1]) [] (j_stf (j_stf (j_hp (JR 47 133 0 (lv_args 0 [.ref 93, .long 0, .int 4]) [] (j_hp (JR 25 132 0 (lv_args 0 [.ref 93, .ref 20]) [] (j_stf (j_hp (JR 25 128 0 (lv_args 0 [.ref 93]) [] (j_hp (JR 305 127 0 (lv_args 0 [.ref 93, .ref 20]) [] (j_stf jh2 93 14 (.int 1)) 0 0 497 19931)) 0 0 497 19931)) 93 10 (.int 0)) 0 0 497 19931)) 0 0 498 19950)) 99 1 (.long 0)) 100 1 (.int 1)) 0 0 499 19979)) 0 0 499 19976)), ?_, ?_, by decide +kernel⟩
        · refine Eq.trans (jr_s (pc2 := 1) (lv2 := [(0, .ref 9), (1, .int 1), (2, .int 0)]) (st2 := [.int 1]) jF_124_0 rfl rfl) ?_
          refine Eq.trans (jr_if0 jF_124_1 (by decide +kernel)) ?_
          refine Eq.trans (jr_s (pc2 := 5) (lv2 := [(0, .ref 9), (1, .int 1), (2, .int 0)]) (st2 := [.ref 9]) jF_124_4 rfl rfl) ?_
          refine Eq.trans (jr_gf (v := .ref 75) jF_124_5 (by decide +kernel)) ?_
          refine Eq.trans (jr_s (pc2 := 15) (lv2 := [(0, .ref 9), (1, .int 1), (2, .int 0)]) (st2 := [.ref 75]) jF_124_8 rfl rfl) ?_
          refine Eq.trans (jr_s (pc2 := 16) (lv2 := [(3, .ref 75), (0, .ref 9), (1, .int 1), (2, .int 0)]) (st2 := []) jF_124_15 rfl rfl) ?_
          refine Eq.trans (jr_s (pc2 := 17) (lv2 := [(3, .ref 75), (0, .ref 9), (1, .int 1), (2, .int 0)]) (st2 := [.ref 9]) jF_124_16 rfl rfl) ?_
          refine Eq.trans (jr_gf (v := .ref 93) jF_124_17 (by decide +kernel)) ?_
          refine Eq.trans (jr_s (pc2 := 21) (lv2 := [(3, .ref 75), (0, .ref 9), (1, .int 1), (2, .int 0)]) (st2 := [.ref 9, .ref 93]) jF_124_20 rfl rfl) ?_
          refine Eq.trans (jr_gf (v := .ref 20) jF_124_21 (by decide +kernel)) ?_
          refine Eq.trans (jr_s (pc2 := 25) (lv2 := [(3, .ref 75), (0, .ref 9), (1, .int 1), (2, .int 0)]) (st2 := [.ref 75, .ref 20, .ref 93]) jF_124_24 rfl rfl) ?_
          refine Eq.trans (jr_gf (v := .long 0) jF_124_25 (by decide +kernel)) ?_
          refine Eq.trans (jr_s (pc2 := 29) (lv2 := [(3, .ref 75), (0, .ref 9), (1, .int 1), (2, .int 0)]) (st2 := [.int 1, .long 0, .ref 20, .ref 93]) jF_124_28 rfl rfl) ?_
          refine Eq.trans (jr_cS (as := [.int 1]) (rest := [.long 0, .ref 20, .ref 93]) (v := some (.int 1)) (hp2 := jh2) (fr2 := 499) (lo2 := 19980) jF_124_29 rfl (show j_cnd 500 20000 499 19980 1 _ _ = true from rfl) ?_) ?_
          · refine Eq.trans (jr_s (pc2 := 1) (lv2 := [(0, .int 1)]) (st2 := [.int 1]) jF_98_0 rfl rfl) ?_
            refine Eq.trans (jr_if0 jF_98_1 (by decide +kernel)) ?_
            refine Eq.trans (jr_s (pc2 := 5) (lv2 := [(0, .int 1)]) (st2 := [.int 1]) jF_98_4 rfl rfl) ?_
            refine Eq.trans (jr_s (pc2 := 9) (lv2 := [(0, .int 1)]) (st2 := [.int 1]) jF_98_5 rfl rfl) ?_
            exact jr_ri jF_98_9 rfl
          refine Eq.trans (jr_s (pc2 := 33) (lv2 := [(3, .ref 75), (0, .ref 9), (1, .int 1), (2, .int 0)]) (st2 := [.int 0, .int 1, .long 0, .ref 20, .ref 93]) jF_124_32 rfl rfl) ?_
          refine Eq.trans (jr_cV (a := 93) (as := [.ref 20, .long 0, .int 1, .int 0]) (rest := []) (v := some (.int 0)) (hp2 := (j_stf (j_stf (j_hp (JR 47 133 0 (lv_args 0 [.ref 93, .long 0, .int 4]) [] (j_hp (JR 25 132 0 (lv_args 0 [.ref 93, .ref 20]) [] (j_stf (j_hp (JR 25 128 0 (lv_args 0 [.ref 93]) [] (j_hp (JR 305 127 0 (lv_args 0 [.ref 93, .ref 20]) [] (j_stf jh2 93 14 (.int 1)) 0 0 497 19931)) 0 0 497 19931)) 93 10 (.int 0)) 0 0 497 19931)) 0 0 498 19950)) 99 1 (.long 0)) 100 1 (.int 1))) (fr2 := 499) (lo2 := 19974) jF_124_33 (by decide +kernel) rfl (show j_cnd 500 20000 499 19974 7 _ _ = true from rfl) ?_) ?_
          · exact jr_upl (pl_fewest_6 0) (by omega)
          exact jr_ri jF_124_36 rfl
        · refine Eq.trans (jr_s (pc2 := 1) (lv2 := [(0, .ref 117), (1, .int 1), (2, .int 0)]) (st2 := [.int 0]) jF_294_0 rfl rfl) ?_
          refine Eq.trans (jr_s (pc2 := 2) (lv2 := [(0, .ref 117), (1, .int 1), (2, .int 0)]) (st2 := [.long 0]) jF_294_1 rfl rfl) ?_
          refine Eq.trans (jr_s (pc2 := 3) (lv2 := [(0, .ref 117), (1, .int 1), (2, .int 0)]) (st2 := [.long 0, .long 0]) jF_294_2 rfl rfl) ?_
          refine Eq.trans (jr_s (pc2 := 6) (lv2 := [(0, .ref 117), (1, .int 1), (2, .int 0)]) (st2 := [.long 3, .long 0, .long 0]) jF_294_3 rfl rfl) ?_
          refine Eq.trans (jr_cS (as := [.long 0, .long 0, .long 3]) (rest := []) (v := some (.int 1)) (hp2 := (j_stf (j_stf (j_hp (JR 47 133 0 (lv_args 0 [.ref 93, .long 0, .int 4]) [] (j_hp (JR 25 132 0 (lv_args 0 [.ref 93, .ref 20]) [] (j_stf (j_hp (JR 25 128 0 (lv_args 0 [.ref 93]) [] (j_hp (JR 305 127 0 (lv_args 0 [.ref 93, .ref 20]) [] (j_stf jh2 93 14 (.int 1)) 0 0 497 19931)) 0 0 497 19931)) 93 10 (.int 0)) 0 0 497 19931)) 0 0 498 19950)) 99 1 (.long 0)) 100 1 (.int 1))) (fr2 := 499) (lo2 := 19975) jF_294_6 rfl (show j_cnd 500 20000 499 19975 6 _ _ = true from rfl) ?_) ?_
          · refine Eq.trans (jr_s (pc2 := 1) (lv2 := [(0, .long 0), (2, .long 0), (4, .long 3)]) (st2 := [.long 0]) jF_232_0 rfl rfl) ?_
            refine Eq.trans (jr_s (pc2 := 2) (lv2 := [(0, .long 0), (2, .long 0), (4, .long 3)]) (st2 := [.long 0, .long 0]) jF_232_1 rfl rfl) ?_
            refine Eq.trans (jr_s (pc2 := 3) (lv2 := [(0, .long 0), (2, .long 0), (4, .long 3)]) (st2 := [.int 0]) jF_232_2 rfl rfl) ?_
            refine Eq.trans (jr_if0 jF_232_3 (by decide +kernel)) ?_
            refine Eq.trans (jr_s (pc2 := 7) (lv2 := [(0, .long 0), (2, .long 0), (4, .long 3)]) (st2 := [.long 0]) jF_232_6 rfl rfl) ?_
            refine Eq.trans (jr_s (pc2 := 9) (lv2 := [(0, .long 0), (2, .long 0), (4, .long 3)]) (st2 := [.long 3, .long 0]) jF_232_7 rfl rfl) ?_
            refine Eq.trans (jr_s (pc2 := 10) (lv2 := [(0, .long 0), (2, .long 0), (4, .long 3)]) (st2 := [.int (-1)]) jF_232_9 rfl rfl) ?_
            refine Eq.trans (jr_if0 jF_232_10 (by decide +kernel)) ?_
            refine Eq.trans (jr_s (pc2 := 14) (lv2 := [(0, .long 0), (2, .long 0), (4, .long 3)]) (st2 := [.int 1]) jF_232_13 rfl rfl) ?_
            refine Eq.trans (jr_s (pc2 := 18) (lv2 := [(0, .long 0), (2, .long 0), (4, .long 3)]) (st2 := [.int 1]) jF_232_14 rfl rfl) ?_
            exact jr_ri jF_232_18 rfl
          refine Eq.trans (jr_if1 jF_294_9 (by decide +kernel)) ?_
          refine Eq.trans (jr_s (pc2 := 15) (lv2 := [(0, .ref 117), (1, .int 1), (2, .int 0)]) (st2 := [.ref 117]) jF_294_14 rfl rfl) ?_
          refine Eq.trans (jr_s (pc2 := 16) (lv2 := [(0, .ref 117), (1, .int 1), (2, .int 0)]) (st2 := [.ref 117, .ref 117]) jF_294_15 rfl rfl) ?_
          refine Eq.trans (jr_s (pc2 := 17) (lv2 := [(0, .ref 117), (1, .int 1), (2, .int 0)]) (st2 := [.int 1, .ref 117, .ref 117]) jF_294_16 rfl rfl) ?_
          refine Eq.trans (jr_cS (as := [.int 1]) (rest := [.ref 117, .ref 117]) (v := some (.int 1)) (hp2 := (j_stf (j_stf (j_hp (JR 47 133 0 (lv_args 0 [.ref 93, .long 0, .int 4]) [] (j_hp (JR 25 132 0 (lv_args 0 [.ref 93, .ref 20]) [] (j_stf (j_hp (JR 25 128 0 (lv_args 0 [.ref 93]) [] (j_hp (JR 305 127 0 (lv_args 0 [.ref 93, .ref 20]) [] (j_stf jh2 93 14 (.int 1)) 0 0 497 19931)) 0 0 497 19931)) 93 10 (.int 0)) 0 0 497 19931)) 0 0 498 19950)) 99 1 (.long 0)) 100 1 (.int 1))) (fr2 := 499) (lo2 := 19980) jF_294_17 rfl (show j_cnd 500 20000 499 19980 1 _ _ = true from rfl) ?_) ?_
          · refine Eq.trans (jr_s (pc2 := 1) (lv2 := [(0, .int 1)]) (st2 := [.int 1]) jF_269_0 rfl rfl) ?_
            refine Eq.trans (jr_if0 jF_269_1 (by decide +kernel)) ?_
            refine Eq.trans (jr_s (pc2 := 5) (lv2 := [(0, .int 1)]) (st2 := [.int 1]) jF_269_4 rfl rfl) ?_
            refine Eq.trans (jr_s (pc2 := 9) (lv2 := [(0, .int 1)]) (st2 := [.int 1]) jF_269_5 rfl rfl) ?_
            exact jr_ri jF_269_9 rfl
          refine Eq.trans (jr_cV (a := 117) (as := [.int 1]) (rest := [.ref 117]) (v := some (.long 0)) (hp2 := (j_hp (JR 37 277 0 (lv_args 0 [.ref 117, .int 1]) [] (j_stf (j_stf (j_hp (JR 47 133 0 (lv_args 0 [.ref 93, .long 0, .int 4]) [] (j_hp (JR 25 132 0 (lv_args 0 [.ref 93, .ref 20]) [] (j_stf (j_hp (JR 25 128 0 (lv_args 0 [.ref 93]) [] (j_hp (JR 305 127 0 (lv_args 0 [.ref 93, .ref 20]) [] (j_stf jh2 93 14 (.int 1)) 0 0 497 19931)) 0 0 497 19931)) 93 10 (.int 0)) 0 0 497 19931)) 0 0 498 19950)) 99 1 (.long 0)) 100 1 (.int 1)) 0 0 499 19979))) (fr2 := 499) (lo2 := 19979) jF_294_20 (by decide +kernel) rfl (show j_cnd 500 20000 499 19979 2 _ _ = true from rfl) ?_) ?_
          · exact jr_upl (jr_cl (v := some (.long 0)) (by decide +kernel)) (by omega)
          refine Eq.trans (jr_cV (a := 117) (as := [.long 0]) (rest := []) (v := none) (hp2 := (j_hp (JR 25 295 0 (lv_args 0 [.ref 117, .long 0]) [] (j_hp (JR 37 277 0 (lv_args 0 [.ref 117, .int 1]) [] (j_stf (j_stf (j_hp (JR 47 133 0 (lv_args 0 [.ref 93, .long 0, .int 4]) [] (j_hp (JR 25 132 0 (lv_args 0 [.ref 93, .ref 20]) [] (j_stf (j_hp (JR 25 128 0 (lv_args 0 [.ref 93]) [] (j_hp (JR 305 127 0 (lv_args 0 [.ref 93, .ref 20]) [] (j_stf jh2 93 14 (.int 1)) 0 0 497 19931)) 0 0 497 19931)) 93 10 (.int 0)) 0 0 497 19931)) 0 0 498 19950)) 99 1 (.long 0)) 100 1 (.int 1)) 0 0 499 19979)) 0 0 499 19976))) (fr2 := 499) (lo2 := 19976) jF_294_23 (by decide +kernel) rfl (show j_cnd 500 20000 499 19976 5 _ _ = true from rfl) ?_) ?_
          · exact jr_upl (jr_cl (v := none) (by decide +kernel)) (by omega)
          refine Eq.trans (jr_s (pc2 := 27) (lv2 := [(0, .ref 117), (1, .int 1), (2, .int 0)]) (st2 := [.ref 117]) jF_294_26 rfl rfl) ?_
          refine Eq.trans (jr_gf (v := .int 0) jF_294_27 (by decide +kernel)) ?_
          refine Eq.trans (jr_s (pc2 := 31) (lv2 := [(0, .ref 117), (1, .int 1), (2, .int 0)]) (st2 := [.int (-1), .int 0]) jF_294_30 rfl rfl) ?_
          refine Eq.trans (jr_ic1 jF_294_31 (by decide +kernel)) ?_
          refine Eq.trans (jr_s (pc2 := 37) (lv2 := [(0, .ref 117), (1, .int 1), (2, .int 0)]) (st2 := [.int 0]) jF_294_36 rfl rfl) ?_
          refine Eq.trans (jr_s (pc2 := 64) (lv2 := [(0, .ref 117), (1, .int 1), (2, .int 0)]) (st2 := []) jF_294_37 rfl rfl) ?_
          refine Eq.trans (jr_s (pc2 := 65) (lv2 := [(0, .ref 117), (1, .int 1), (2, .int 0)]) (st2 := [.ref 117]) jF_294_64 rfl rfl) ?_
          refine Eq.trans (jr_gf (v := .int 0) jF_294_65 (by decide +kernel)) ?_
          exact jr_ri jF_294_68 rfl
      · rcases j_ilt a2.toInt 2 with h_a2_2 | h_a2_2
        · obtain rfl : a2 = 1 := Int32.toInt_inj.mp (by rw [show (1 : Int32).toInt = 1 from by decide]; omega)
          refine ⟨60000, 60000, 0, (j_stf (j_stf (j_hp (JR 47 133 0 (lv_args 0 [.ref 93, .long 0, .int 4]) [] (j_hp (JR 25 132 0 (lv_args 0 [.ref 93, .ref 20]) [] (j_stf (j_hp (JR 25 128 0 (lv_args 0 [.ref 93]) [] (j_hp (JR 305 127 0 (lv_args 0 [.ref 93, .ref 20]) [] (j_stf jh2 93 14 (.int 1)) 0 0 497 19931)) 0 0 497 19931)) 93 10 (.int 0)) 0 0 497 19931)) 0 0 498 19950)) 99 1 (.long 0)) 100 1 (.int 1)), (j_hp (JR 25 295 0 (lv_args 0 [.ref 117, .long 0]) [] (j_hp (JR 37 277 0 (lv_args 0 [.ref 117, .int 1]) [] (j_stf (j_stf (j_hp (JR 47 133 0 (lv_args 0 [.ref 93, .long 0, .int 4]) [] (j_hp (JR 25 132 0 (lv_args 0 [.ref 93, .ref 20]) [] (j_stf (j_hp (JR 25 128 0 (lv_args 0 [.ref 93]) [] (j_hp (JR 305 127 0 (lv_args 0 [.ref 93, .ref 20]) [] (j_stf jh2 93 14 (.int 1)) 0 0 497 19931)) 0 0 497 19931)) 93 10 (.int 0)) 0 0 497 19931)) 0 0 498 19950)) 99 1 (.long 0)) 100 1 (.int 1)) 0 0 499 19979)) 0 0 499 19976)), ?_, ?_, by decide +kernel⟩
          · refine Eq.trans (jr_s (pc2 := 1) (lv2 := [(0, .ref 9), (1, .int 1), (2, .int 1)]) (st2 := [.int 1]) jF_124_0 rfl rfl) ?_
            refine Eq.trans (jr_if0 jF_124_1 (by decide +kernel)) ?_
            refine Eq.trans (jr_s (pc2 := 5) (lv2 := [(0, .ref 9), (1, .int 1), (2, .int 1)]) (st2 := [.ref 9]) jF_124_4 rfl rfl) ?_
            refine Eq.trans (jr_gf (v := .ref 75) jF_124_5 (by decide +kernel)) ?_
            refine Eq.trans (jr_s (pc2 := 15) (lv2 := [(0, .ref 9), (1, .int 1), (2, .int 1)]) (st2 := [.ref 75]) jF_124_8 rfl rfl) ?_
            refine Eq.trans (jr_s (pc2 := 16) (lv2 := [(3, .ref 75), (0, .ref 9), (1, .int 1), (2, .int 1)]) (st2 := []) jF_124_15 rfl rfl) ?_
            refine Eq.trans (jr_s (pc2 := 17) (lv2 := [(3, .ref 75), (0, .ref 9), (1, .int 1), (2, .int 1)]) (st2 := [.ref 9]) jF_124_16 rfl rfl) ?_
            refine Eq.trans (jr_gf (v := .ref 93) jF_124_17 (by decide +kernel)) ?_
            refine Eq.trans (jr_s (pc2 := 21) (lv2 := [(3, .ref 75), (0, .ref 9), (1, .int 1), (2, .int 1)]) (st2 := [.ref 9, .ref 93]) jF_124_20 rfl rfl) ?_
            refine Eq.trans (jr_gf (v := .ref 20) jF_124_21 (by decide +kernel)) ?_
            refine Eq.trans (jr_s (pc2 := 25) (lv2 := [(3, .ref 75), (0, .ref 9), (1, .int 1), (2, .int 1)]) (st2 := [.ref 75, .ref 20, .ref 93]) jF_124_24 rfl rfl) ?_
            refine Eq.trans (jr_gf (v := .long 0) jF_124_25 (by decide +kernel)) ?_
            refine Eq.trans (jr_s (pc2 := 29) (lv2 := [(3, .ref 75), (0, .ref 9), (1, .int 1), (2, .int 1)]) (st2 := [.int 1, .long 0, .ref 20, .ref 93]) jF_124_28 rfl rfl) ?_
            refine Eq.trans (jr_cS (as := [.int 1]) (rest := [.long 0, .ref 20, .ref 93]) (v := some (.int 1)) (hp2 := jh2) (fr2 := 499) (lo2 := 19980) jF_124_29 rfl (show j_cnd 500 20000 499 19980 1 _ _ = true from rfl) ?_) ?_
            · refine Eq.trans (jr_s (pc2 := 1) (lv2 := [(0, .int 1)]) (st2 := [.int 1]) jF_98_0 rfl rfl) ?_
              refine Eq.trans (jr_if0 jF_98_1 (by decide +kernel)) ?_
              refine Eq.trans (jr_s (pc2 := 5) (lv2 := [(0, .int 1)]) (st2 := [.int 1]) jF_98_4 rfl rfl) ?_
              refine Eq.trans (jr_s (pc2 := 9) (lv2 := [(0, .int 1)]) (st2 := [.int 1]) jF_98_5 rfl rfl) ?_
              exact jr_ri jF_98_9 rfl
            refine Eq.trans (jr_s (pc2 := 33) (lv2 := [(3, .ref 75), (0, .ref 9), (1, .int 1), (2, .int 1)]) (st2 := [.int 1, .int 1, .long 0, .ref 20, .ref 93]) jF_124_32 rfl rfl) ?_
            refine Eq.trans (jr_cV (a := 93) (as := [.ref 20, .long 0, .int 1, .int 1]) (rest := []) (v := some (.int 0)) (hp2 := (j_stf (j_stf (j_hp (JR 47 133 0 (lv_args 0 [.ref 93, .long 0, .int 4]) [] (j_hp (JR 25 132 0 (lv_args 0 [.ref 93, .ref 20]) [] (j_stf (j_hp (JR 25 128 0 (lv_args 0 [.ref 93]) [] (j_hp (JR 305 127 0 (lv_args 0 [.ref 93, .ref 20]) [] (j_stf jh2 93 14 (.int 1)) 0 0 497 19931)) 0 0 497 19931)) 93 10 (.int 0)) 0 0 497 19931)) 0 0 498 19950)) 99 1 (.long 0)) 100 1 (.int 1))) (fr2 := 499) (lo2 := 19974) jF_124_33 (by decide +kernel) rfl (show j_cnd 500 20000 499 19974 7 _ _ = true from rfl) ?_) ?_
            · exact jr_upl (pl_fewest_7 0) (by omega)
            exact jr_ri jF_124_36 rfl
          · refine Eq.trans (jr_s (pc2 := 1) (lv2 := [(0, .ref 117), (1, .int 1), (2, .int 1)]) (st2 := [.int 1]) jF_294_0 rfl rfl) ?_
            refine Eq.trans (jr_s (pc2 := 2) (lv2 := [(0, .ref 117), (1, .int 1), (2, .int 1)]) (st2 := [.long 1]) jF_294_1 rfl rfl) ?_
            refine Eq.trans (jr_s (pc2 := 3) (lv2 := [(0, .ref 117), (1, .int 1), (2, .int 1)]) (st2 := [.long 0, .long 1]) jF_294_2 rfl rfl) ?_
            refine Eq.trans (jr_s (pc2 := 6) (lv2 := [(0, .ref 117), (1, .int 1), (2, .int 1)]) (st2 := [.long 3, .long 0, .long 1]) jF_294_3 rfl rfl) ?_
            refine Eq.trans (jr_cS (as := [.long 1, .long 0, .long 3]) (rest := []) (v := some (.int 1)) (hp2 := (j_stf (j_stf (j_hp (JR 47 133 0 (lv_args 0 [.ref 93, .long 0, .int 4]) [] (j_hp (JR 25 132 0 (lv_args 0 [.ref 93, .ref 20]) [] (j_stf (j_hp (JR 25 128 0 (lv_args 0 [.ref 93]) [] (j_hp (JR 305 127 0 (lv_args 0 [.ref 93, .ref 20]) [] (j_stf jh2 93 14 (.int 1)) 0 0 497 19931)) 0 0 497 19931)) 93 10 (.int 0)) 0 0 497 19931)) 0 0 498 19950)) 99 1 (.long 0)) 100 1 (.int 1))) (fr2 := 499) (lo2 := 19975) jF_294_6 rfl (show j_cnd 500 20000 499 19975 6 _ _ = true from rfl) ?_) ?_
            · refine Eq.trans (jr_s (pc2 := 1) (lv2 := [(0, .long 1), (2, .long 0), (4, .long 3)]) (st2 := [.long 1]) jF_232_0 rfl rfl) ?_
              refine Eq.trans (jr_s (pc2 := 2) (lv2 := [(0, .long 1), (2, .long 0), (4, .long 3)]) (st2 := [.long 0, .long 1]) jF_232_1 rfl rfl) ?_
              refine Eq.trans (jr_s (pc2 := 3) (lv2 := [(0, .long 1), (2, .long 0), (4, .long 3)]) (st2 := [.int 1]) jF_232_2 rfl rfl) ?_
              refine Eq.trans (jr_if0 jF_232_3 (by decide +kernel)) ?_
              refine Eq.trans (jr_s (pc2 := 7) (lv2 := [(0, .long 1), (2, .long 0), (4, .long 3)]) (st2 := [.long 1]) jF_232_6 rfl rfl) ?_
              refine Eq.trans (jr_s (pc2 := 9) (lv2 := [(0, .long 1), (2, .long 0), (4, .long 3)]) (st2 := [.long 3, .long 1]) jF_232_7 rfl rfl) ?_
              refine Eq.trans (jr_s (pc2 := 10) (lv2 := [(0, .long 1), (2, .long 0), (4, .long 3)]) (st2 := [.int (-1)]) jF_232_9 rfl rfl) ?_
              refine Eq.trans (jr_if0 jF_232_10 (by decide +kernel)) ?_
              refine Eq.trans (jr_s (pc2 := 14) (lv2 := [(0, .long 1), (2, .long 0), (4, .long 3)]) (st2 := [.int 1]) jF_232_13 rfl rfl) ?_
              refine Eq.trans (jr_s (pc2 := 18) (lv2 := [(0, .long 1), (2, .long 0), (4, .long 3)]) (st2 := [.int 1]) jF_232_14 rfl rfl) ?_
              exact jr_ri jF_232_18 rfl
            refine Eq.trans (jr_if1 jF_294_9 (by decide +kernel)) ?_
            refine Eq.trans (jr_s (pc2 := 15) (lv2 := [(0, .ref 117), (1, .int 1), (2, .int 1)]) (st2 := [.ref 117]) jF_294_14 rfl rfl) ?_
            refine Eq.trans (jr_s (pc2 := 16) (lv2 := [(0, .ref 117), (1, .int 1), (2, .int 1)]) (st2 := [.ref 117, .ref 117]) jF_294_15 rfl rfl) ?_
            refine Eq.trans (jr_s (pc2 := 17) (lv2 := [(0, .ref 117), (1, .int 1), (2, .int 1)]) (st2 := [.int 1, .ref 117, .ref 117]) jF_294_16 rfl rfl) ?_
            refine Eq.trans (jr_cS (as := [.int 1]) (rest := [.ref 117, .ref 117]) (v := some (.int 1)) (hp2 := (j_stf (j_stf (j_hp (JR 47 133 0 (lv_args 0 [.ref 93, .long 0, .int 4]) [] (j_hp (JR 25 132 0 (lv_args 0 [.ref 93, .ref 20]) [] (j_stf (j_hp (JR 25 128 0 (lv_args 0 [.ref 93]) [] (j_hp (JR 305 127 0 (lv_args 0 [.ref 93, .ref 20]) [] (j_stf jh2 93 14 (.int 1)) 0 0 497 19931)) 0 0 497 19931)) 93 10 (.int 0)) 0 0 497 19931)) 0 0 498 19950)) 99 1 (.long 0)) 100 1 (.int 1))) (fr2 := 499) (lo2 := 19980) jF_294_17 rfl (show j_cnd 500 20000 499 19980 1 _ _ = true from rfl) ?_) ?_
            · refine Eq.trans (jr_s (pc2 := 1) (lv2 := [(0, .int 1)]) (st2 := [.int 1]) jF_269_0 rfl rfl) ?_
              refine Eq.trans (jr_if0 jF_269_1 (by decide +kernel)) ?_
              refine Eq.trans (jr_s (pc2 := 5) (lv2 := [(0, .int 1)]) (st2 := [.int 1]) jF_269_4 rfl rfl) ?_
              refine Eq.trans (jr_s (pc2 := 9) (lv2 := [(0, .int 1)]) (st2 := [.int 1]) jF_269_5 rfl rfl) ?_
              exact jr_ri jF_269_9 rfl
            refine Eq.trans (jr_cV (a := 117) (as := [.int 1]) (rest := [.ref 117]) (v := some (.long 0)) (hp2 := (j_hp (JR 37 277 0 (lv_args 0 [.ref 117, .int 1]) [] (j_stf (j_stf (j_hp (JR 47 133 0 (lv_args 0 [.ref 93, .long 0, .int 4]) [] (j_hp (JR 25 132 0 (lv_args 0 [.ref 93, .ref 20]) [] (j_stf (j_hp (JR 25 128 0 (lv_args 0 [.ref 93]) [] (j_hp (JR 305 127 0 (lv_args 0 [.ref 93, .ref 20]) [] (j_stf jh2 93 14 (.int 1)) 0 0 497 19931)) 0 0 497 19931)) 93 10 (.int 0)) 0 0 497 19931)) 0 0 498 19950)) 99 1 (.long 0)) 100 1 (.int 1)) 0 0 499 19979))) (fr2 := 499) (lo2 := 19979) jF_294_20 (by decide +kernel) rfl (show j_cnd 500 20000 499 19979 2 _ _ = true from rfl) ?_) ?_
            · exact jr_upl (jr_cl (v := some (.long 0)) (by decide +kernel)) (by omega)
            refine Eq.trans (jr_cV (a := 117) (as := [.long 0]) (rest := []) (v := none) (hp2 := (j_hp (JR 25 295 0 (lv_args 0 [.ref 117, .long 0]) [] (j_hp (JR 37 277 0 (lv_args 0 [.ref 117, .int 1]) [] (j_stf (j_stf (j_hp (JR 47 133 0 (lv_args 0 [.ref 93, .long 0, .int 4]) [] (j_hp (JR 25 132 0 (lv_args 0 [.ref 93, .ref 20]) [] (j_stf (j_hp (JR 25 128 0 (lv_args 0 [.ref 93]) [] (j_hp (JR 305 127 0 (lv_args 0 [.ref 93, .ref 20]) [] (j_stf jh2 93 14 (.int 1)) 0 0 497 19931)) 0 0 497 19931)) 93 10 (.int 0)) 0 0 497 19931)) 0 0 498 19950)) 99 1 (.long 0)) 100 1 (.int 1)) 0 0 499 19979)) 0 0 499 19976))) (fr2 := 499) (lo2 := 19976) jF_294_23 (by decide +kernel) rfl (show j_cnd 500 20000 499 19976 5 _ _ = true from rfl) ?_) ?_
            · exact jr_upl (jr_cl (v := none) (by decide +kernel)) (by omega)
            refine Eq.trans (jr_s (pc2 := 27) (lv2 := [(0, .ref 117), (1, .int 1), (2, .int 1)]) (st2 := [.ref 117]) jF_294_26 rfl rfl) ?_
            refine Eq.trans (jr_gf (v := .int 0) jF_294_27 (by decide +kernel)) ?_
            refine Eq.trans (jr_s (pc2 := 31) (lv2 := [(0, .ref 117), (1, .int 1), (2, .int 1)]) (st2 := [.int (-1), .int 0]) jF_294_30 rfl rfl) ?_
            refine Eq.trans (jr_ic1 jF_294_31 (by decide +kernel)) ?_
            refine Eq.trans (jr_s (pc2 := 37) (lv2 := [(0, .ref 117), (1, .int 1), (2, .int 1)]) (st2 := [.int 1]) jF_294_36 rfl rfl) ?_
            refine Eq.trans (jr_s (pc2 := 69) (lv2 := [(0, .ref 117), (1, .int 1), (2, .int 1)]) (st2 := []) jF_294_37 rfl rfl) ?_
            refine Eq.trans (jr_s (pc2 := 70) (lv2 := [(0, .ref 117), (1, .int 1), (2, .int 1)]) (st2 := [.ref 117]) jF_294_69 rfl rfl) ?_
            refine Eq.trans (jr_gf (v := .int (-1)) jF_294_70 (by decide +kernel)) ?_
            refine Eq.trans (jr_s (pc2 := 74) (lv2 := [(0, .ref 117), (1, .int 1), (2, .int 1)]) (st2 := [.int (-1), .int (-1)]) jF_294_73 rfl rfl) ?_
            refine Eq.trans (jr_ic0 jF_294_74 (by decide +kernel)) ?_
            refine Eq.trans (jr_s (pc2 := 78) (lv2 := [(0, .ref 117), (1, .int 1), (2, .int 1)]) (st2 := [.int 0]) jF_294_77 rfl rfl) ?_
            refine Eq.trans (jr_s (pc2 := 94) (lv2 := [(0, .ref 117), (1, .int 1), (2, .int 1)]) (st2 := [.int 0]) jF_294_78 rfl rfl) ?_
            exact jr_ri jF_294_94 rfl
        · rcases j_ilt a2.toInt 3 with h_a2_3 | h_a2_3
          · obtain rfl : a2 = 2 := Int32.toInt_inj.mp (by rw [show (2 : Int32).toInt = 2 from by decide]; omega)
            refine ⟨60000, 60000, (-1), (j_stf (j_stf (j_hp (JR 47 133 0 (lv_args 0 [.ref 93, .long 0, .int 4]) [] (j_hp (JR 25 132 0 (lv_args 0 [.ref 93, .ref 20]) [] (j_stf (j_hp (JR 25 128 0 (lv_args 0 [.ref 93]) [] (j_hp (JR 305 127 0 (lv_args 0 [.ref 93, .ref 20]) [] (j_stf jh2 93 14 (.int 1)) 0 0 497 19931)) 0 0 497 19931)) 93 10 (.int 0)) 0 0 497 19931)) 0 0 498 19950)) 99 1 (.long 0)) 100 1 (.int 1)), (j_hp (JR 25 295 0 (lv_args 0 [.ref 117, .long 0]) [] (j_hp (JR 37 277 0 (lv_args 0 [.ref 117, .int 1]) [] (j_stf (j_stf (j_hp (JR 47 133 0 (lv_args 0 [.ref 93, .long 0, .int 4]) [] (j_hp (JR 25 132 0 (lv_args 0 [.ref 93, .ref 20]) [] (j_stf (j_hp (JR 25 128 0 (lv_args 0 [.ref 93]) [] (j_hp (JR 305 127 0 (lv_args 0 [.ref 93, .ref 20]) [] (j_stf jh2 93 14 (.int 1)) 0 0 497 19931)) 0 0 497 19931)) 93 10 (.int 0)) 0 0 497 19931)) 0 0 498 19950)) 99 1 (.long 0)) 100 1 (.int 1)) 0 0 499 19979)) 0 0 499 19976)), ?_, ?_, by decide +kernel⟩
            · refine Eq.trans (jr_s (pc2 := 1) (lv2 := [(0, .ref 9), (1, .int 1), (2, .int 2)]) (st2 := [.int 1]) jF_124_0 rfl rfl) ?_
              refine Eq.trans (jr_if0 jF_124_1 (by decide +kernel)) ?_
              refine Eq.trans (jr_s (pc2 := 5) (lv2 := [(0, .ref 9), (1, .int 1), (2, .int 2)]) (st2 := [.ref 9]) jF_124_4 rfl rfl) ?_
              refine Eq.trans (jr_gf (v := .ref 75) jF_124_5 (by decide +kernel)) ?_
              refine Eq.trans (jr_s (pc2 := 15) (lv2 := [(0, .ref 9), (1, .int 1), (2, .int 2)]) (st2 := [.ref 75]) jF_124_8 rfl rfl) ?_
              refine Eq.trans (jr_s (pc2 := 16) (lv2 := [(3, .ref 75), (0, .ref 9), (1, .int 1), (2, .int 2)]) (st2 := []) jF_124_15 rfl rfl) ?_
              refine Eq.trans (jr_s (pc2 := 17) (lv2 := [(3, .ref 75), (0, .ref 9), (1, .int 1), (2, .int 2)]) (st2 := [.ref 9]) jF_124_16 rfl rfl) ?_
              refine Eq.trans (jr_gf (v := .ref 93) jF_124_17 (by decide +kernel)) ?_
              refine Eq.trans (jr_s (pc2 := 21) (lv2 := [(3, .ref 75), (0, .ref 9), (1, .int 1), (2, .int 2)]) (st2 := [.ref 9, .ref 93]) jF_124_20 rfl rfl) ?_
              refine Eq.trans (jr_gf (v := .ref 20) jF_124_21 (by decide +kernel)) ?_
              refine Eq.trans (jr_s (pc2 := 25) (lv2 := [(3, .ref 75), (0, .ref 9), (1, .int 1), (2, .int 2)]) (st2 := [.ref 75, .ref 20, .ref 93]) jF_124_24 rfl rfl) ?_
              refine Eq.trans (jr_gf (v := .long 0) jF_124_25 (by decide +kernel)) ?_
              refine Eq.trans (jr_s (pc2 := 29) (lv2 := [(3, .ref 75), (0, .ref 9), (1, .int 1), (2, .int 2)]) (st2 := [.int 1, .long 0, .ref 20, .ref 93]) jF_124_28 rfl rfl) ?_
              refine Eq.trans (jr_cS (as := [.int 1]) (rest := [.long 0, .ref 20, .ref 93]) (v := some (.int 1)) (hp2 := jh2) (fr2 := 499) (lo2 := 19980) jF_124_29 rfl (show j_cnd 500 20000 499 19980 1 _ _ = true from rfl) ?_) ?_
              · refine Eq.trans (jr_s (pc2 := 1) (lv2 := [(0, .int 1)]) (st2 := [.int 1]) jF_98_0 rfl rfl) ?_
                refine Eq.trans (jr_if0 jF_98_1 (by decide +kernel)) ?_
                refine Eq.trans (jr_s (pc2 := 5) (lv2 := [(0, .int 1)]) (st2 := [.int 1]) jF_98_4 rfl rfl) ?_
                refine Eq.trans (jr_s (pc2 := 9) (lv2 := [(0, .int 1)]) (st2 := [.int 1]) jF_98_5 rfl rfl) ?_
                exact jr_ri jF_98_9 rfl
              refine Eq.trans (jr_s (pc2 := 33) (lv2 := [(3, .ref 75), (0, .ref 9), (1, .int 1), (2, .int 2)]) (st2 := [.int 2, .int 1, .long 0, .ref 20, .ref 93]) jF_124_32 rfl rfl) ?_
              refine Eq.trans (jr_cV (a := 93) (as := [.ref 20, .long 0, .int 1, .int 2]) (rest := []) (v := some (.int (-1))) (hp2 := (j_stf (j_stf (j_hp (JR 47 133 0 (lv_args 0 [.ref 93, .long 0, .int 4]) [] (j_hp (JR 25 132 0 (lv_args 0 [.ref 93, .ref 20]) [] (j_stf (j_hp (JR 25 128 0 (lv_args 0 [.ref 93]) [] (j_hp (JR 305 127 0 (lv_args 0 [.ref 93, .ref 20]) [] (j_stf jh2 93 14 (.int 1)) 0 0 497 19931)) 0 0 497 19931)) 93 10 (.int 0)) 0 0 497 19931)) 0 0 498 19950)) 99 1 (.long 0)) 100 1 (.int 1))) (fr2 := 499) (lo2 := 19974) jF_124_33 (by decide +kernel) rfl (show j_cnd 500 20000 499 19974 7 _ _ = true from rfl) ?_) ?_
              · exact jr_upl (pl_fewest_8 0) (by omega)
              exact jr_ri jF_124_36 rfl
            · refine Eq.trans (jr_s (pc2 := 1) (lv2 := [(0, .ref 117), (1, .int 1), (2, .int 2)]) (st2 := [.int 2]) jF_294_0 rfl rfl) ?_
              refine Eq.trans (jr_s (pc2 := 2) (lv2 := [(0, .ref 117), (1, .int 1), (2, .int 2)]) (st2 := [.long 2]) jF_294_1 rfl rfl) ?_
              refine Eq.trans (jr_s (pc2 := 3) (lv2 := [(0, .ref 117), (1, .int 1), (2, .int 2)]) (st2 := [.long 0, .long 2]) jF_294_2 rfl rfl) ?_
              refine Eq.trans (jr_s (pc2 := 6) (lv2 := [(0, .ref 117), (1, .int 1), (2, .int 2)]) (st2 := [.long 3, .long 0, .long 2]) jF_294_3 rfl rfl) ?_
              refine Eq.trans (jr_cS (as := [.long 2, .long 0, .long 3]) (rest := []) (v := some (.int 1)) (hp2 := (j_stf (j_stf (j_hp (JR 47 133 0 (lv_args 0 [.ref 93, .long 0, .int 4]) [] (j_hp (JR 25 132 0 (lv_args 0 [.ref 93, .ref 20]) [] (j_stf (j_hp (JR 25 128 0 (lv_args 0 [.ref 93]) [] (j_hp (JR 305 127 0 (lv_args 0 [.ref 93, .ref 20]) [] (j_stf jh2 93 14 (.int 1)) 0 0 497 19931)) 0 0 497 19931)) 93 10 (.int 0)) 0 0 497 19931)) 0 0 498 19950)) 99 1 (.long 0)) 100 1 (.int 1))) (fr2 := 499) (lo2 := 19975) jF_294_6 rfl (show j_cnd 500 20000 499 19975 6 _ _ = true from rfl) ?_) ?_
              · refine Eq.trans (jr_s (pc2 := 1) (lv2 := [(0, .long 2), (2, .long 0), (4, .long 3)]) (st2 := [.long 2]) jF_232_0 rfl rfl) ?_
                refine Eq.trans (jr_s (pc2 := 2) (lv2 := [(0, .long 2), (2, .long 0), (4, .long 3)]) (st2 := [.long 0, .long 2]) jF_232_1 rfl rfl) ?_
                refine Eq.trans (jr_s (pc2 := 3) (lv2 := [(0, .long 2), (2, .long 0), (4, .long 3)]) (st2 := [.int 1]) jF_232_2 rfl rfl) ?_
                refine Eq.trans (jr_if0 jF_232_3 (by decide +kernel)) ?_
                refine Eq.trans (jr_s (pc2 := 7) (lv2 := [(0, .long 2), (2, .long 0), (4, .long 3)]) (st2 := [.long 2]) jF_232_6 rfl rfl) ?_
                refine Eq.trans (jr_s (pc2 := 9) (lv2 := [(0, .long 2), (2, .long 0), (4, .long 3)]) (st2 := [.long 3, .long 2]) jF_232_7 rfl rfl) ?_
                refine Eq.trans (jr_s (pc2 := 10) (lv2 := [(0, .long 2), (2, .long 0), (4, .long 3)]) (st2 := [.int (-1)]) jF_232_9 rfl rfl) ?_
                refine Eq.trans (jr_if0 jF_232_10 (by decide +kernel)) ?_
                refine Eq.trans (jr_s (pc2 := 14) (lv2 := [(0, .long 2), (2, .long 0), (4, .long 3)]) (st2 := [.int 1]) jF_232_13 rfl rfl) ?_
                refine Eq.trans (jr_s (pc2 := 18) (lv2 := [(0, .long 2), (2, .long 0), (4, .long 3)]) (st2 := [.int 1]) jF_232_14 rfl rfl) ?_
                exact jr_ri jF_232_18 rfl
              refine Eq.trans (jr_if1 jF_294_9 (by decide +kernel)) ?_
              refine Eq.trans (jr_s (pc2 := 15) (lv2 := [(0, .ref 117), (1, .int 1), (2, .int 2)]) (st2 := [.ref 117]) jF_294_14 rfl rfl) ?_
              refine Eq.trans (jr_s (pc2 := 16) (lv2 := [(0, .ref 117), (1, .int 1), (2, .int 2)]) (st2 := [.ref 117, .ref 117]) jF_294_15 rfl rfl) ?_
              refine Eq.trans (jr_s (pc2 := 17) (lv2 := [(0, .ref 117), (1, .int 1), (2, .int 2)]) (st2 := [.int 1, .ref 117, .ref 117]) jF_294_16 rfl rfl) ?_
              refine Eq.trans (jr_cS (as := [.int 1]) (rest := [.ref 117, .ref 117]) (v := some (.int 1)) (hp2 := (j_stf (j_stf (j_hp (JR 47 133 0 (lv_args 0 [.ref 93, .long 0, .int 4]) [] (j_hp (JR 25 132 0 (lv_args 0 [.ref 93, .ref 20]) [] (j_stf (j_hp (JR 25 128 0 (lv_args 0 [.ref 93]) [] (j_hp (JR 305 127 0 (lv_args 0 [.ref 93, .ref 20]) [] (j_stf jh2 93 14 (.int 1)) 0 0 497 19931)) 0 0 497 19931)) 93 10 (.int 0)) 0 0 497 19931)) 0 0 498 19950)) 99 1 (.long 0)) 100 1 (.int 1))) (fr2 := 499) (lo2 := 19980) jF_294_17 rfl (show j_cnd 500 20000 499 19980 1 _ _ = true from rfl) ?_) ?_
              · refine Eq.trans (jr_s (pc2 := 1) (lv2 := [(0, .int 1)]) (st2 := [.int 1]) jF_269_0 rfl rfl) ?_
                refine Eq.trans (jr_if0 jF_269_1 (by decide +kernel)) ?_
                refine Eq.trans (jr_s (pc2 := 5) (lv2 := [(0, .int 1)]) (st2 := [.int 1]) jF_269_4 rfl rfl) ?_
                refine Eq.trans (jr_s (pc2 := 9) (lv2 := [(0, .int 1)]) (st2 := [.int 1]) jF_269_5 rfl rfl) ?_
                exact jr_ri jF_269_9 rfl
              refine Eq.trans (jr_cV (a := 117) (as := [.int 1]) (rest := [.ref 117]) (v := some (.long 0)) (hp2 := (j_hp (JR 37 277 0 (lv_args 0 [.ref 117, .int 1]) [] (j_stf (j_stf (j_hp (JR 47 133 0 (lv_args 0 [.ref 93, .long 0, .int 4]) [] (j_hp (JR 25 132 0 (lv_args 0 [.ref 93, .ref 20]) [] (j_stf (j_hp (JR 25 128 0 (lv_args 0 [.ref 93]) [] (j_hp (JR 305 127 0 (lv_args 0 [.ref 93, .ref 20]) [] (j_stf jh2 93 14 (.int 1)) 0 0 497 19931)) 0 0 497 19931)) 93 10 (.int 0)) 0 0 497 19931)) 0 0 498 19950)) 99 1 (.long 0)) 100 1 (.int 1)) 0 0 499 19979))) (fr2 := 499) (lo2 := 19979) jF_294_20 (by decide +kernel) rfl (show j_cnd 500 20000 499 19979 2 _ _ = true from rfl) ?_) ?_
              · exact jr_upl (jr_cl (v := some (.long 0)) (by decide +kernel)) (by omega)
              refine Eq.trans (jr_cV (a := 117) (as := [.long 0]) (rest := []) (v := none) (hp2 := (j_hp (JR 25 295 0 (lv_args 0 [.ref 117, .long 0]) [] (j_hp (JR 37 277 0 (lv_args 0 [.ref 117, .int 1]) [] (j_stf (j_stf (j_hp (JR 47 133 0 (lv_args 0 [.ref 93, .long 0, .int 4]) [] (j_hp (JR 25 132 0 (lv_args 0 [.ref 93, .ref 20]) [] (j_stf (j_hp (JR 25 128 0 (lv_args 0 [.ref 93]) [] (j_hp (JR 305 127 0 (lv_args 0 [.ref 93, .ref 20]) [] (j_stf jh2 93 14 (.int 1)) 0 0 497 19931)) 0 0 497 19931)) 93 10 (.int 0)) 0 0 497 19931)) 0 0 498 19950)) 99 1 (.long 0)) 100 1 (.int 1)) 0 0 499 19979)) 0 0 499 19976))) (fr2 := 499) (lo2 := 19976) jF_294_23 (by decide +kernel) rfl (show j_cnd 500 20000 499 19976 5 _ _ = true from rfl) ?_) ?_
              · exact jr_upl (jr_cl (v := none) (by decide +kernel)) (by omega)
              refine Eq.trans (jr_s (pc2 := 27) (lv2 := [(0, .ref 117), (1, .int 1), (2, .int 2)]) (st2 := [.ref 117]) jF_294_26 rfl rfl) ?_
              refine Eq.trans (jr_gf (v := .int 0) jF_294_27 (by decide +kernel)) ?_
              refine Eq.trans (jr_s (pc2 := 31) (lv2 := [(0, .ref 117), (1, .int 1), (2, .int 2)]) (st2 := [.int (-1), .int 0]) jF_294_30 rfl rfl) ?_
              refine Eq.trans (jr_ic1 jF_294_31 (by decide +kernel)) ?_
              refine Eq.trans (jr_s (pc2 := 37) (lv2 := [(0, .ref 117), (1, .int 1), (2, .int 2)]) (st2 := [.int 2]) jF_294_36 rfl rfl) ?_
              refine Eq.trans (jr_s (pc2 := 95) (lv2 := [(0, .ref 117), (1, .int 1), (2, .int 2)]) (st2 := []) jF_294_37 rfl rfl) ?_
              refine Eq.trans (jr_s (pc2 := 96) (lv2 := [(0, .ref 117), (1, .int 1), (2, .int 2)]) (st2 := [.ref 117]) jF_294_95 rfl rfl) ?_
              refine Eq.trans (jr_gf (v := .int (-1)) jF_294_96 (by decide +kernel)) ?_
              exact jr_ri jF_294_99 rfl
          · obtain rfl : a2 = 3 := Int32.toInt_inj.mp (by rw [show (3 : Int32).toInt = 3 from by decide]; omega)
            refine ⟨60000, 60000, (-1), (j_stf (j_stf (j_hp (JR 47 133 0 (lv_args 0 [.ref 93, .long 0, .int 4]) [] (j_hp (JR 25 132 0 (lv_args 0 [.ref 93, .ref 20]) [] (j_stf (j_hp (JR 25 128 0 (lv_args 0 [.ref 93]) [] (j_hp (JR 305 127 0 (lv_args 0 [.ref 93, .ref 20]) [] (j_stf jh2 93 14 (.int 1)) 0 0 497 19931)) 0 0 497 19931)) 93 10 (.int 0)) 0 0 497 19931)) 0 0 498 19950)) 99 1 (.long 0)) 100 1 (.int 1)), (j_hp (JR 25 295 0 (lv_args 0 [.ref 117, .long 0]) [] (j_hp (JR 37 277 0 (lv_args 0 [.ref 117, .int 1]) [] (j_stf (j_stf (j_hp (JR 47 133 0 (lv_args 0 [.ref 93, .long 0, .int 4]) [] (j_hp (JR 25 132 0 (lv_args 0 [.ref 93, .ref 20]) [] (j_stf (j_hp (JR 25 128 0 (lv_args 0 [.ref 93]) [] (j_hp (JR 305 127 0 (lv_args 0 [.ref 93, .ref 20]) [] (j_stf jh2 93 14 (.int 1)) 0 0 497 19931)) 0 0 497 19931)) 93 10 (.int 0)) 0 0 497 19931)) 0 0 498 19950)) 99 1 (.long 0)) 100 1 (.int 1)) 0 0 499 19979)) 0 0 499 19976)), ?_, ?_, by decide +kernel⟩
            · refine Eq.trans (jr_s (pc2 := 1) (lv2 := [(0, .ref 9), (1, .int 1), (2, .int 3)]) (st2 := [.int 1]) jF_124_0 rfl rfl) ?_
              refine Eq.trans (jr_if0 jF_124_1 (by decide +kernel)) ?_
              refine Eq.trans (jr_s (pc2 := 5) (lv2 := [(0, .ref 9), (1, .int 1), (2, .int 3)]) (st2 := [.ref 9]) jF_124_4 rfl rfl) ?_
              refine Eq.trans (jr_gf (v := .ref 75) jF_124_5 (by decide +kernel)) ?_
              refine Eq.trans (jr_s (pc2 := 15) (lv2 := [(0, .ref 9), (1, .int 1), (2, .int 3)]) (st2 := [.ref 75]) jF_124_8 rfl rfl) ?_
              refine Eq.trans (jr_s (pc2 := 16) (lv2 := [(3, .ref 75), (0, .ref 9), (1, .int 1), (2, .int 3)]) (st2 := []) jF_124_15 rfl rfl) ?_
              refine Eq.trans (jr_s (pc2 := 17) (lv2 := [(3, .ref 75), (0, .ref 9), (1, .int 1), (2, .int 3)]) (st2 := [.ref 9]) jF_124_16 rfl rfl) ?_
              refine Eq.trans (jr_gf (v := .ref 93) jF_124_17 (by decide +kernel)) ?_
              refine Eq.trans (jr_s (pc2 := 21) (lv2 := [(3, .ref 75), (0, .ref 9), (1, .int 1), (2, .int 3)]) (st2 := [.ref 9, .ref 93]) jF_124_20 rfl rfl) ?_
              refine Eq.trans (jr_gf (v := .ref 20) jF_124_21 (by decide +kernel)) ?_
              refine Eq.trans (jr_s (pc2 := 25) (lv2 := [(3, .ref 75), (0, .ref 9), (1, .int 1), (2, .int 3)]) (st2 := [.ref 75, .ref 20, .ref 93]) jF_124_24 rfl rfl) ?_
              refine Eq.trans (jr_gf (v := .long 0) jF_124_25 (by decide +kernel)) ?_
              refine Eq.trans (jr_s (pc2 := 29) (lv2 := [(3, .ref 75), (0, .ref 9), (1, .int 1), (2, .int 3)]) (st2 := [.int 1, .long 0, .ref 20, .ref 93]) jF_124_28 rfl rfl) ?_
              refine Eq.trans (jr_cS (as := [.int 1]) (rest := [.long 0, .ref 20, .ref 93]) (v := some (.int 1)) (hp2 := jh2) (fr2 := 499) (lo2 := 19980) jF_124_29 rfl (show j_cnd 500 20000 499 19980 1 _ _ = true from rfl) ?_) ?_
              · refine Eq.trans (jr_s (pc2 := 1) (lv2 := [(0, .int 1)]) (st2 := [.int 1]) jF_98_0 rfl rfl) ?_
                refine Eq.trans (jr_if0 jF_98_1 (by decide +kernel)) ?_
                refine Eq.trans (jr_s (pc2 := 5) (lv2 := [(0, .int 1)]) (st2 := [.int 1]) jF_98_4 rfl rfl) ?_
                refine Eq.trans (jr_s (pc2 := 9) (lv2 := [(0, .int 1)]) (st2 := [.int 1]) jF_98_5 rfl rfl) ?_
                exact jr_ri jF_98_9 rfl
              refine Eq.trans (jr_s (pc2 := 33) (lv2 := [(3, .ref 75), (0, .ref 9), (1, .int 1), (2, .int 3)]) (st2 := [.int 3, .int 1, .long 0, .ref 20, .ref 93]) jF_124_32 rfl rfl) ?_
              refine Eq.trans (jr_cV (a := 93) (as := [.ref 20, .long 0, .int 1, .int 3]) (rest := []) (v := some (.int (-1))) (hp2 := (j_stf (j_stf (j_hp (JR 47 133 0 (lv_args 0 [.ref 93, .long 0, .int 4]) [] (j_hp (JR 25 132 0 (lv_args 0 [.ref 93, .ref 20]) [] (j_stf (j_hp (JR 25 128 0 (lv_args 0 [.ref 93]) [] (j_hp (JR 305 127 0 (lv_args 0 [.ref 93, .ref 20]) [] (j_stf jh2 93 14 (.int 1)) 0 0 497 19931)) 0 0 497 19931)) 93 10 (.int 0)) 0 0 497 19931)) 0 0 498 19950)) 99 1 (.long 0)) 100 1 (.int 1))) (fr2 := 499) (lo2 := 19974) jF_124_33 (by decide +kernel) rfl (show j_cnd 500 20000 499 19974 7 _ _ = true from rfl) ?_) ?_
              · exact jr_upl (pl_fewest_9 0) (by omega)
              exact jr_ri jF_124_36 rfl
            · refine Eq.trans (jr_s (pc2 := 1) (lv2 := [(0, .ref 117), (1, .int 1), (2, .int 3)]) (st2 := [.int 3]) jF_294_0 rfl rfl) ?_
              refine Eq.trans (jr_s (pc2 := 2) (lv2 := [(0, .ref 117), (1, .int 1), (2, .int 3)]) (st2 := [.long 3]) jF_294_1 rfl rfl) ?_
              refine Eq.trans (jr_s (pc2 := 3) (lv2 := [(0, .ref 117), (1, .int 1), (2, .int 3)]) (st2 := [.long 0, .long 3]) jF_294_2 rfl rfl) ?_
              refine Eq.trans (jr_s (pc2 := 6) (lv2 := [(0, .ref 117), (1, .int 1), (2, .int 3)]) (st2 := [.long 3, .long 0, .long 3]) jF_294_3 rfl rfl) ?_
              refine Eq.trans (jr_cS (as := [.long 3, .long 0, .long 3]) (rest := []) (v := some (.int 1)) (hp2 := (j_stf (j_stf (j_hp (JR 47 133 0 (lv_args 0 [.ref 93, .long 0, .int 4]) [] (j_hp (JR 25 132 0 (lv_args 0 [.ref 93, .ref 20]) [] (j_stf (j_hp (JR 25 128 0 (lv_args 0 [.ref 93]) [] (j_hp (JR 305 127 0 (lv_args 0 [.ref 93, .ref 20]) [] (j_stf jh2 93 14 (.int 1)) 0 0 497 19931)) 0 0 497 19931)) 93 10 (.int 0)) 0 0 497 19931)) 0 0 498 19950)) 99 1 (.long 0)) 100 1 (.int 1))) (fr2 := 499) (lo2 := 19975) jF_294_6 rfl (show j_cnd 500 20000 499 19975 6 _ _ = true from rfl) ?_) ?_
              · refine Eq.trans (jr_s (pc2 := 1) (lv2 := [(0, .long 3), (2, .long 0), (4, .long 3)]) (st2 := [.long 3]) jF_232_0 rfl rfl) ?_
                refine Eq.trans (jr_s (pc2 := 2) (lv2 := [(0, .long 3), (2, .long 0), (4, .long 3)]) (st2 := [.long 0, .long 3]) jF_232_1 rfl rfl) ?_
                refine Eq.trans (jr_s (pc2 := 3) (lv2 := [(0, .long 3), (2, .long 0), (4, .long 3)]) (st2 := [.int 1]) jF_232_2 rfl rfl) ?_
                refine Eq.trans (jr_if0 jF_232_3 (by decide +kernel)) ?_
                refine Eq.trans (jr_s (pc2 := 7) (lv2 := [(0, .long 3), (2, .long 0), (4, .long 3)]) (st2 := [.long 3]) jF_232_6 rfl rfl) ?_
                refine Eq.trans (jr_s (pc2 := 9) (lv2 := [(0, .long 3), (2, .long 0), (4, .long 3)]) (st2 := [.long 3, .long 3]) jF_232_7 rfl rfl) ?_
                refine Eq.trans (jr_s (pc2 := 10) (lv2 := [(0, .long 3), (2, .long 0), (4, .long 3)]) (st2 := [.int 0]) jF_232_9 rfl rfl) ?_
                refine Eq.trans (jr_if0 jF_232_10 (by decide +kernel)) ?_
                refine Eq.trans (jr_s (pc2 := 14) (lv2 := [(0, .long 3), (2, .long 0), (4, .long 3)]) (st2 := [.int 1]) jF_232_13 rfl rfl) ?_
                refine Eq.trans (jr_s (pc2 := 18) (lv2 := [(0, .long 3), (2, .long 0), (4, .long 3)]) (st2 := [.int 1]) jF_232_14 rfl rfl) ?_
                exact jr_ri jF_232_18 rfl
              refine Eq.trans (jr_if1 jF_294_9 (by decide +kernel)) ?_
              refine Eq.trans (jr_s (pc2 := 15) (lv2 := [(0, .ref 117), (1, .int 1), (2, .int 3)]) (st2 := [.ref 117]) jF_294_14 rfl rfl) ?_
              refine Eq.trans (jr_s (pc2 := 16) (lv2 := [(0, .ref 117), (1, .int 1), (2, .int 3)]) (st2 := [.ref 117, .ref 117]) jF_294_15 rfl rfl) ?_
              refine Eq.trans (jr_s (pc2 := 17) (lv2 := [(0, .ref 117), (1, .int 1), (2, .int 3)]) (st2 := [.int 1, .ref 117, .ref 117]) jF_294_16 rfl rfl) ?_
              refine Eq.trans (jr_cS (as := [.int 1]) (rest := [.ref 117, .ref 117]) (v := some (.int 1)) (hp2 := (j_stf (j_stf (j_hp (JR 47 133 0 (lv_args 0 [.ref 93, .long 0, .int 4]) [] (j_hp (JR 25 132 0 (lv_args 0 [.ref 93, .ref 20]) [] (j_stf (j_hp (JR 25 128 0 (lv_args 0 [.ref 93]) [] (j_hp (JR 305 127 0 (lv_args 0 [.ref 93, .ref 20]) [] (j_stf jh2 93 14 (.int 1)) 0 0 497 19931)) 0 0 497 19931)) 93 10 (.int 0)) 0 0 497 19931)) 0 0 498 19950)) 99 1 (.long 0)) 100 1 (.int 1))) (fr2 := 499) (lo2 := 19980) jF_294_17 rfl (show j_cnd 500 20000 499 19980 1 _ _ = true from rfl) ?_) ?_
              · refine Eq.trans (jr_s (pc2 := 1) (lv2 := [(0, .int 1)]) (st2 := [.int 1]) jF_269_0 rfl rfl) ?_
                refine Eq.trans (jr_if0 jF_269_1 (by decide +kernel)) ?_
                refine Eq.trans (jr_s (pc2 := 5) (lv2 := [(0, .int 1)]) (st2 := [.int 1]) jF_269_4 rfl rfl) ?_
                refine Eq.trans (jr_s (pc2 := 9) (lv2 := [(0, .int 1)]) (st2 := [.int 1]) jF_269_5 rfl rfl) ?_
                exact jr_ri jF_269_9 rfl
              refine Eq.trans (jr_cV (a := 117) (as := [.int 1]) (rest := [.ref 117]) (v := some (.long 0)) (hp2 := (j_hp (JR 37 277 0 (lv_args 0 [.ref 117, .int 1]) [] (j_stf (j_stf (j_hp (JR 47 133 0 (lv_args 0 [.ref 93, .long 0, .int 4]) [] (j_hp (JR 25 132 0 (lv_args 0 [.ref 93, .ref 20]) [] (j_stf (j_hp (JR 25 128 0 (lv_args 0 [.ref 93]) [] (j_hp (JR 305 127 0 (lv_args 0 [.ref 93, .ref 20]) [] (j_stf jh2 93 14 (.int 1)) 0 0 497 19931)) 0 0 497 19931)) 93 10 (.int 0)) 0 0 497 19931)) 0 0 498 19950)) 99 1 (.long 0)) 100 1 (.int 1)) 0 0 499 19979))) (fr2 := 499) (lo2 := 19979) jF_294_20 (by decide +kernel) rfl (show j_cnd 500 20000 499 19979 2 _ _ = true from rfl) ?_) ?_
              · exact jr_upl (jr_cl (v := some (.long 0)) (by decide +kernel)) (by omega)
              refine Eq.trans (jr_cV (a := 117) (as := [.long 0]) (rest := []) (v := none) (hp2 := (j_hp (JR 25 295 0 (lv_args 0 [.ref 117, .long 0]) [] (j_hp (JR 37 277 0 (lv_args 0 [.ref 117, .int 1]) [] (j_stf (j_stf (j_hp (JR 47 133 0 (lv_args 0 [.ref 93, .long 0, .int 4]) [] (j_hp (JR 25 132 0 (lv_args 0 [.ref 93, .ref 20]) [] (j_stf (j_hp (JR 25 128 0 (lv_args 0 [.ref 93]) [] (j_hp (JR 305 127 0 (lv_args 0 [.ref 93, .ref 20]) [] (j_stf jh2 93 14 (.int 1)) 0 0 497 19931)) 0 0 497 19931)) 93 10 (.int 0)) 0 0 497 19931)) 0 0 498 19950)) 99 1 (.long 0)) 100 1 (.int 1)) 0 0 499 19979)) 0 0 499 19976))) (fr2 := 499) (lo2 := 19976) jF_294_23 (by decide +kernel) rfl (show j_cnd 500 20000 499 19976 5 _ _ = true from rfl) ?_) ?_
              · exact jr_upl (jr_cl (v := none) (by decide +kernel)) (by omega)
              refine Eq.trans (jr_s (pc2 := 27) (lv2 := [(0, .ref 117), (1, .int 1), (2, .int 3)]) (st2 := [.ref 117]) jF_294_26 rfl rfl) ?_
              refine Eq.trans (jr_gf (v := .int 0) jF_294_27 (by decide +kernel)) ?_
              refine Eq.trans (jr_s (pc2 := 31) (lv2 := [(0, .ref 117), (1, .int 1), (2, .int 3)]) (st2 := [.int (-1), .int 0]) jF_294_30 rfl rfl) ?_
              refine Eq.trans (jr_ic1 jF_294_31 (by decide +kernel)) ?_
              refine Eq.trans (jr_s (pc2 := 37) (lv2 := [(0, .ref 117), (1, .int 1), (2, .int 3)]) (st2 := [.int 3]) jF_294_36 rfl rfl) ?_
              refine Eq.trans (jr_s (pc2 := 100) (lv2 := [(0, .ref 117), (1, .int 1), (2, .int 3)]) (st2 := []) jF_294_37 rfl rfl) ?_
              refine Eq.trans (jr_s (pc2 := 101) (lv2 := [(0, .ref 117), (1, .int 1), (2, .int 3)]) (st2 := [.ref 117]) jF_294_100 rfl rfl) ?_
              refine Eq.trans (jr_gf (v := .int (-1)) jF_294_101 (by decide +kernel)) ?_
              exact jr_ri jF_294_104 rfl
    · refine ⟨60000, 60000, (-1), jh2, jh2, ?_, ?_, by decide +kernel⟩
      · refine Eq.trans (jr_s (pc2 := 1) (lv2 := [(0, .ref 9), (1, .int 1), (2, .int a2)]) (st2 := [.int 1]) jF_124_0 rfl rfl) ?_
        refine Eq.trans (jr_if0 jF_124_1 (by decide +kernel)) ?_
        refine Eq.trans (jr_s (pc2 := 5) (lv2 := [(0, .ref 9), (1, .int 1), (2, .int a2)]) (st2 := [.ref 9]) jF_124_4 rfl rfl) ?_
        refine Eq.trans (jr_gf (v := .ref 75) jF_124_5 (by decide +kernel)) ?_
        refine Eq.trans (jr_s (pc2 := 15) (lv2 := [(0, .ref 9), (1, .int 1), (2, .int a2)]) (st2 := [.ref 75]) jF_124_8 rfl rfl) ?_
        refine Eq.trans (jr_s (pc2 := 16) (lv2 := [(3, .ref 75), (0, .ref 9), (1, .int 1), (2, .int a2)]) (st2 := []) jF_124_15 rfl rfl) ?_
        refine Eq.trans (jr_s (pc2 := 17) (lv2 := [(3, .ref 75), (0, .ref 9), (1, .int 1), (2, .int a2)]) (st2 := [.ref 9]) jF_124_16 rfl rfl) ?_
        refine Eq.trans (jr_gf (v := .ref 93) jF_124_17 (by decide +kernel)) ?_
        refine Eq.trans (jr_s (pc2 := 21) (lv2 := [(3, .ref 75), (0, .ref 9), (1, .int 1), (2, .int a2)]) (st2 := [.ref 9, .ref 93]) jF_124_20 rfl rfl) ?_
        refine Eq.trans (jr_gf (v := .ref 20) jF_124_21 (by decide +kernel)) ?_
        refine Eq.trans (jr_s (pc2 := 25) (lv2 := [(3, .ref 75), (0, .ref 9), (1, .int 1), (2, .int a2)]) (st2 := [.ref 75, .ref 20, .ref 93]) jF_124_24 rfl rfl) ?_
        refine Eq.trans (jr_gf (v := .long 0) jF_124_25 (by decide +kernel)) ?_
        refine Eq.trans (jr_s (pc2 := 29) (lv2 := [(3, .ref 75), (0, .ref 9), (1, .int 1), (2, .int a2)]) (st2 := [.int 1, .long 0, .ref 20, .ref 93]) jF_124_28 rfl rfl) ?_
        refine Eq.trans (jr_cS (as := [.int 1]) (rest := [.long 0, .ref 20, .ref 93]) (v := some (.int 1)) (hp2 := jh2) (fr2 := 499) (lo2 := 19980) jF_124_29 rfl (show j_cnd 500 20000 499 19980 1 _ _ = true from rfl) ?_) ?_
        · refine Eq.trans (jr_s (pc2 := 1) (lv2 := [(0, .int 1)]) (st2 := [.int 1]) jF_98_0 rfl rfl) ?_
          refine Eq.trans (jr_if0 jF_98_1 (by decide +kernel)) ?_
          refine Eq.trans (jr_s (pc2 := 5) (lv2 := [(0, .int 1)]) (st2 := [.int 1]) jF_98_4 rfl rfl) ?_
          refine Eq.trans (jr_s (pc2 := 9) (lv2 := [(0, .int 1)]) (st2 := [.int 1]) jF_98_5 rfl rfl) ?_
          exact jr_ri jF_98_9 rfl
        refine Eq.trans (jr_s (pc2 := 33) (lv2 := [(3, .ref 75), (0, .ref 9), (1, .int 1), (2, .int a2)]) (st2 := [.int a2, .int 1, .long 0, .ref 20, .ref 93]) jF_124_32 rfl rfl) ?_
        refine Eq.trans (jr_cV (a := 93) (as := [.ref 20, .long 0, .int 1, .int a2]) (rest := []) (v := some (.int (-1))) (hp2 := jh2) (fr2 := 499) (lo2 := 19974) jF_124_33 (by decide +kernel) rfl (show j_cnd 500 20000 499 19974 7 _ _ = true from rfl) ?_) ?_
        · refine Eq.trans (jr_s (pc2 := 2) (lv2 := [(0, .ref 93), (1, .ref 20), (2, .long 0), (4, .int 1), (5, .int a2)]) (st2 := [.int a2]) jF_125_0 rfl rfl) ?_
          refine Eq.trans (jr_if0 jF_125_2 (jk_lt_ge (show (0 : Int32).toInt ≤ (a2 : Int32).toInt by rw [show (0 : Int32).toInt = 0 from by decide]; omega))) ?_
          refine Eq.trans (jr_s (pc2 := 7) (lv2 := [(0, .ref 93), (1, .ref 20), (2, .long 0), (4, .int 1), (5, .int a2)]) (st2 := [.int a2]) jF_125_5 rfl rfl) ?_
          refine Eq.trans (jr_s (pc2 := 8) (lv2 := [(0, .ref 93), (1, .ref 20), (2, .long 0), (4, .int 1), (5, .int a2)]) (st2 := [.int 4, .int a2]) jF_125_7 rfl rfl) ?_
          refine Eq.trans (jr_ic1 jF_125_8 (jk_ge_ge (show (4 : Int32).toInt ≤ (a2 : Int32).toInt by rw [show (4 : Int32).toInt = 4 from by decide]; omega))) ?_
          refine Eq.trans (jr_s (pc2 := 27) (lv2 := [(0, .ref 93), (1, .ref 20), (2, .long 0), (4, .int 1), (5, .int a2)]) (st2 := [.int (-1)]) jF_125_26 rfl rfl) ?_
          exact jr_ri jF_125_27 rfl
        exact jr_ri jF_124_36 rfl
      · refine Eq.trans (jr_s (pc2 := 1) (lv2 := [(0, .ref 117), (1, .int 1), (2, .int a2)]) (st2 := [.int a2]) jF_294_0 rfl rfl) ?_
        refine Eq.trans (jr_s (pc2 := 2) (lv2 := [(0, .ref 117), (1, .int 1), (2, .int a2)]) (st2 := [.long (Int32.toInt64 a2)]) jF_294_1 rfl rfl) ?_
        refine Eq.trans (jr_s (pc2 := 3) (lv2 := [(0, .ref 117), (1, .int 1), (2, .int a2)]) (st2 := [.long 0, .long (Int32.toInt64 a2)]) jF_294_2 rfl rfl) ?_
        refine Eq.trans (jr_s (pc2 := 6) (lv2 := [(0, .ref 117), (1, .int 1), (2, .int a2)]) (st2 := [.long 3, .long 0, .long (Int32.toInt64 a2)]) jF_294_3 rfl rfl) ?_
        refine Eq.trans (jr_cS (as := [.long (Int32.toInt64 a2), .long 0, .long 3]) (rest := []) (v := some (.int 0)) (hp2 := jh2) (fr2 := 499) (lo2 := 19975) jF_294_6 rfl (show j_cnd 500 20000 499 19975 6 _ _ = true from rfl) ?_) ?_
        · refine Eq.trans (jr_s (pc2 := 1) (lv2 := [(0, .long (Int32.toInt64 a2)), (2, .long 0), (4, .long 3)]) (st2 := [.long (Int32.toInt64 a2)]) jF_232_0 rfl rfl) ?_
          refine Eq.trans (jr_s (pc2 := 2) (lv2 := [(0, .long (Int32.toInt64 a2)), (2, .long 0), (4, .long 3)]) (st2 := [.long 0, .long (Int32.toInt64 a2)]) jF_232_1 rfl rfl) ?_
          refine Eq.trans (jr_s (pc2 := 3) (lv2 := [(0, .long (Int32.toInt64 a2)), (2, .long 0), (4, .long 3)]) (st2 := [.int (lg_cmp (Int32.toInt64 a2) 0)]) jF_232_2 rfl rfl) ?_
          refine Eq.trans (jr_if0 jF_232_3 (jkl_lt_ge (show (0 : Int64).toInt ≤ ((Int32.toInt64 a2) : Int64).toInt by rw [Int32.toInt_toInt64, show (0 : Int64).toInt = 0 from by decide]; omega))) ?_
          refine Eq.trans (jr_s (pc2 := 7) (lv2 := [(0, .long (Int32.toInt64 a2)), (2, .long 0), (4, .long 3)]) (st2 := [.long (Int32.toInt64 a2)]) jF_232_6 rfl rfl) ?_
          refine Eq.trans (jr_s (pc2 := 9) (lv2 := [(0, .long (Int32.toInt64 a2)), (2, .long 0), (4, .long 3)]) (st2 := [.long 3, .long (Int32.toInt64 a2)]) jF_232_7 rfl rfl) ?_
          refine Eq.trans (jr_s (pc2 := 10) (lv2 := [(0, .long (Int32.toInt64 a2)), (2, .long 0), (4, .long 3)]) (st2 := [.int (lg_cmp (Int32.toInt64 a2) 3)]) jF_232_9 rfl rfl) ?_
          refine Eq.trans (jr_if1 jF_232_10 (jkl_gt_gt (show (3 : Int64).toInt < ((Int32.toInt64 a2) : Int64).toInt by rw [Int32.toInt_toInt64, show (3 : Int64).toInt = 3 from by decide]; omega))) ?_
          refine Eq.trans (jr_s (pc2 := 18) (lv2 := [(0, .long (Int32.toInt64 a2)), (2, .long 0), (4, .long 3)]) (st2 := [.int 0]) jF_232_17 rfl rfl) ?_
          exact jr_ri jF_232_18 rfl
        refine Eq.trans (jr_if0 jF_294_9 (by decide +kernel)) ?_
        refine Eq.trans (jr_s (pc2 := 13) (lv2 := [(0, .ref 117), (1, .int 1), (2, .int a2)]) (st2 := [.int (-1)]) jF_294_12 rfl rfl) ?_
        exact jr_ri jF_294_13 rfl
