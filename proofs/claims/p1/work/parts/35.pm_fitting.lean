set_option maxHeartbeats 8000000 in
set_option maxRecDepth 100000 in
theorem pl_fitting_0 (n : Nat) : JR (n + 40064) 129 0 (lv_args 0 [.ref 93]) [] (j_hp (JR 25 128 0 (lv_args 0 [.ref 93]) [] (j_hp (JR 305 127 0 (lv_args 0 [.ref 93, .ref 20]) [] (j_stf jh2 93 14 (.int 1)) 0 0 497 19935)) 0 0 497 19935)) 0 0 497 19934 = some (none, (j_stf (j_hp (JR 25 128 0 (lv_args 0 [.ref 93]) [] (j_hp (JR 305 127 0 (lv_args 0 [.ref 93, .ref 20]) [] (j_stf jh2 93 14 (.int 1)) 0 0 497 19935)) 0 0 497 19935)) 93 10 (.int 0)), 0, 0) := by
  refine Eq.trans (jr_s (pc2 := 1) (lv2 := [(0, .ref 93)]) (st2 := [.ref 93]) jF_129_0 rfl rfl) ?_
  refine Eq.trans (jr_gf (v := .ref 97) jF_129_1 (by decide +kernel)) ?_
  refine Eq.trans (jr_s (pc2 := 5) (lv2 := [(0, .ref 93)]) (st2 := [.int 0, .ref 97]) jF_129_4 rfl rfl) ?_
  refine Eq.trans (jr_cS (as := [.ref 97, .int 0]) (rest := []) (v := none) (hp2 := (j_hp (JR 25 128 0 (lv_args 0 [.ref 93]) [] (j_hp (JR 305 127 0 (lv_args 0 [.ref 93, .ref 20]) [] (j_stf jh2 93 14 (.int 1)) 0 0 497 19935)) 0 0 497 19935))) (fr2 := 496) (lo2 := 19911) jF_129_5 rfl (show j_cnd 497 19934 496 19911 4 _ _ = true from rfl) ?_) ?_
  · exact j_fill0 (L := 4095) rfl (by decide +kernel) rfl (by omega)
  refine Eq.trans (jr_s (pc2 := 9) (lv2 := [(0, .ref 93)]) (st2 := [.ref 93]) jF_129_8 rfl rfl) ?_
  refine Eq.trans (jr_s (pc2 := 10) (lv2 := [(0, .ref 93)]) (st2 := [.int 0, .ref 93]) jF_129_9 rfl rfl) ?_
  refine Eq.trans (jr_pf jF_129_10 (by decide +kernel) rfl) ?_
  refine Eq.trans (jr_s (pc2 := 14) (lv2 := [(0, .ref 93)]) (st2 := [.int 0]) jF_129_13 rfl rfl) ?_
  refine Eq.trans (jr_s (pc2 := 15) (lv2 := [(1, .int 0), (0, .ref 93)]) (st2 := []) jF_129_14 rfl rfl) ?_
  refine Eq.trans (jr_s (pc2 := 16) (lv2 := [(1, .int 0), (0, .ref 93)]) (st2 := [.int 0]) jF_129_15 rfl rfl) ?_
  refine Eq.trans (jr_s (pc2 := 17) (lv2 := [(1, .int 0), (0, .ref 93)]) (st2 := [.ref 93, .int 0]) jF_129_16 rfl rfl) ?_
  refine Eq.trans (jr_gf (v := .int 0) jF_129_17 (by decide +kernel)) ?_
  refine Eq.trans (jr_ic1 jF_129_20 (by decide +kernel)) ?_
  exact jr_rr jF_129_111
set_option maxHeartbeats 8000000 in
set_option maxRecDepth 100000 in
theorem pl_fitting_1 (n : Nat) : JR (n + 40135) 126 0 (lv_args 0 [.ref 93, .ref 20]) [] jh2 0 0 498 19957 = some (none, (j_hp (JR 25 132 0 (lv_args 0 [.ref 93, .ref 20]) [] (j_stf (j_hp (JR 25 128 0 (lv_args 0 [.ref 93]) [] (j_hp (JR 305 127 0 (lv_args 0 [.ref 93, .ref 20]) [] (j_stf jh2 93 14 (.int 1)) 0 0 497 19935)) 0 0 497 19935)) 93 10 (.int 0)) 0 0 497 19935)), 0, 0) := by
  refine Eq.trans (jr_s (pc2 := 1) (lv2 := [(0, .ref 93), (1, .ref 20)]) (st2 := [.ref 93]) jF_126_0 rfl rfl) ?_
  refine Eq.trans (jr_gf (v := .int 0) jF_126_1 (by decide +kernel)) ?_
  refine Eq.trans (jr_if1 jF_126_4 (by decide +kernel)) ?_
  refine Eq.trans (jr_s (pc2 := 9) (lv2 := [(0, .ref 93), (1, .ref 20)]) (st2 := [.ref 93]) jF_126_8 rfl rfl) ?_
  refine Eq.trans (jr_s (pc2 := 10) (lv2 := [(0, .ref 93), (1, .ref 20)]) (st2 := [.int 1, .ref 93]) jF_126_9 rfl rfl) ?_
  refine Eq.trans (jr_pf jF_126_10 (by decide +kernel) rfl) ?_
  refine Eq.trans (jr_s (pc2 := 14) (lv2 := [(0, .ref 93), (1, .ref 20)]) (st2 := [.ref 93]) jF_126_13 rfl rfl) ?_
  refine Eq.trans (jr_s (pc2 := 15) (lv2 := [(0, .ref 93), (1, .ref 20)]) (st2 := [.ref 20, .ref 93]) jF_126_14 rfl rfl) ?_
  refine Eq.trans (jr_cV (a := 93) (as := [.ref 20]) (rest := []) (v := none) (hp2 := (j_hp (JR 305 127 0 (lv_args 0 [.ref 93, .ref 20]) [] (j_stf jh2 93 14 (.int 1)) 0 0 497 19935))) (fr2 := 497) (lo2 := 19935) jF_126_15 (by decide +kernel) rfl (show j_cnd 498 19957 497 19935 3 _ _ = true from rfl) ?_) ?_
  · exact jr_upl (jr_cl (v := none) (by decide +kernel)) (by omega)
  refine Eq.trans (jr_s (pc2 := 19) (lv2 := [(0, .ref 93), (1, .ref 20)]) (st2 := [.ref 93]) jF_126_18 rfl rfl) ?_
  refine Eq.trans (jr_cV (a := 93) (as := []) (rest := []) (v := none) (hp2 := (j_hp (JR 25 128 0 (lv_args 0 [.ref 93]) [] (j_hp (JR 305 127 0 (lv_args 0 [.ref 93, .ref 20]) [] (j_stf jh2 93 14 (.int 1)) 0 0 497 19935)) 0 0 497 19935))) (fr2 := 497) (lo2 := 19935) jF_126_19 (by decide +kernel) rfl (show j_cnd 498 19957 497 19935 3 _ _ = true from rfl) ?_) ?_
  · exact jr_upl (jr_cl (v := none) (by decide +kernel)) (by omega)
  refine Eq.trans (jr_s (pc2 := 23) (lv2 := [(0, .ref 93), (1, .ref 20)]) (st2 := [.ref 93]) jF_126_22 rfl rfl) ?_
  refine Eq.trans (jr_cV (a := 93) (as := []) (rest := []) (v := none) (hp2 := (j_stf (j_hp (JR 25 128 0 (lv_args 0 [.ref 93]) [] (j_hp (JR 305 127 0 (lv_args 0 [.ref 93, .ref 20]) [] (j_stf jh2 93 14 (.int 1)) 0 0 497 19935)) 0 0 497 19935)) 93 10 (.int 0))) (fr2 := 497) (lo2 := 19934) jF_126_23 (by decide +kernel) rfl (show j_cnd 498 19957 497 19934 4 _ _ = true from rfl) ?_) ?_
  · exact jr_upl (pl_fitting_0 0) (by omega)
  refine Eq.trans (jr_s (pc2 := 27) (lv2 := [(0, .ref 93), (1, .ref 20)]) (st2 := [.ref 93]) jF_126_26 rfl rfl) ?_
  refine Eq.trans (jr_s (pc2 := 28) (lv2 := [(0, .ref 93), (1, .ref 20)]) (st2 := [.ref 20, .ref 93]) jF_126_27 rfl rfl) ?_
  refine Eq.trans (jr_cV (a := 93) (as := [.ref 20]) (rest := []) (v := none) (hp2 := (j_hp (JR 25 132 0 (lv_args 0 [.ref 93, .ref 20]) [] (j_stf (j_hp (JR 25 128 0 (lv_args 0 [.ref 93]) [] (j_hp (JR 305 127 0 (lv_args 0 [.ref 93, .ref 20]) [] (j_stf jh2 93 14 (.int 1)) 0 0 497 19935)) 0 0 497 19935)) 93 10 (.int 0)) 0 0 497 19935))) (fr2 := 497) (lo2 := 19935) jF_126_28 (by decide +kernel) rfl (show j_cnd 498 19957 497 19935 3 _ _ = true from rfl) ?_) ?_
  · exact jr_upl (jr_cl (v := none) (by decide +kernel)) (by omega)
  exact jr_rr jF_126_31
set_option maxHeartbeats 8000000 in
set_option maxRecDepth 100000 in
theorem pl_fitting_2 (n : Nat) : JR (n + 40194) 165 0 (lv_args 0 [.ref 93, .ref 20, .int 0]) [] jh2 0 0 499 19978 = some (some (.int 0), (j_hp (JR 25 132 0 (lv_args 0 [.ref 93, .ref 20]) [] (j_stf (j_hp (JR 25 128 0 (lv_args 0 [.ref 93]) [] (j_hp (JR 305 127 0 (lv_args 0 [.ref 93, .ref 20]) [] (j_stf jh2 93 14 (.int 1)) 0 0 497 19935)) 0 0 497 19935)) 93 10 (.int 0)) 0 0 497 19935)), 0, 0) := by
  refine Eq.trans (jr_s (pc2 := 1) (lv2 := [(0, .ref 93), (1, .ref 20), (2, .int 0)]) (st2 := [.ref 93]) jF_165_0 rfl rfl) ?_
  refine Eq.trans (jr_s (pc2 := 2) (lv2 := [(0, .ref 93), (1, .ref 20), (2, .int 0)]) (st2 := [.ref 20, .ref 93]) jF_165_1 rfl rfl) ?_
  refine Eq.trans (jr_cV (a := 93) (as := [.ref 20]) (rest := []) (v := none) (hp2 := (j_hp (JR 25 132 0 (lv_args 0 [.ref 93, .ref 20]) [] (j_stf (j_hp (JR 25 128 0 (lv_args 0 [.ref 93]) [] (j_hp (JR 305 127 0 (lv_args 0 [.ref 93, .ref 20]) [] (j_stf jh2 93 14 (.int 1)) 0 0 497 19935)) 0 0 497 19935)) 93 10 (.int 0)) 0 0 497 19935))) (fr2 := 498) (lo2 := 19957) jF_165_2 (by decide +kernel) rfl (show j_cnd 499 19978 498 19957 2 _ _ = true from rfl) ?_) ?_
  · exact jr_upl (pl_fitting_1 0) (by omega)
  refine Eq.trans (jr_s (pc2 := 6) (lv2 := [(0, .ref 93), (1, .ref 20), (2, .int 0)]) (st2 := [.int 0]) jF_165_5 rfl rfl) ?_
  refine Eq.trans (jr_s (pc2 := 32) (lv2 := [(0, .ref 93), (1, .ref 20), (2, .int 0)]) (st2 := []) jF_165_6 rfl rfl) ?_
  refine Eq.trans (jr_s (pc2 := 33) (lv2 := [(0, .ref 93), (1, .ref 20), (2, .int 0)]) (st2 := [.ref 93]) jF_165_32 rfl rfl) ?_
  refine Eq.trans (jr_gf (v := .int 0) jF_165_33 (by decide +kernel)) ?_
  exact jr_ri jF_165_36 rfl
set_option maxHeartbeats 8000000 in
set_option maxRecDepth 100000 in
theorem pl_fitting_3 (n : Nat) : JR (n + 40197) 165 0 (lv_args 0 [.ref 93, .ref 20, .int 1]) [] jh2 0 0 499 19978 = some (some (.int 0), (j_hp (JR 25 132 0 (lv_args 0 [.ref 93, .ref 20]) [] (j_stf (j_hp (JR 25 128 0 (lv_args 0 [.ref 93]) [] (j_hp (JR 305 127 0 (lv_args 0 [.ref 93, .ref 20]) [] (j_stf jh2 93 14 (.int 1)) 0 0 497 19935)) 0 0 497 19935)) 93 10 (.int 0)) 0 0 497 19935)), 0, 0) := by
  refine Eq.trans (jr_s (pc2 := 1) (lv2 := [(0, .ref 93), (1, .ref 20), (2, .int 1)]) (st2 := [.ref 93]) jF_165_0 rfl rfl) ?_
  refine Eq.trans (jr_s (pc2 := 2) (lv2 := [(0, .ref 93), (1, .ref 20), (2, .int 1)]) (st2 := [.ref 20, .ref 93]) jF_165_1 rfl rfl) ?_
  refine Eq.trans (jr_cV (a := 93) (as := [.ref 20]) (rest := []) (v := none) (hp2 := (j_hp (JR 25 132 0 (lv_args 0 [.ref 93, .ref 20]) [] (j_stf (j_hp (JR 25 128 0 (lv_args 0 [.ref 93]) [] (j_hp (JR 305 127 0 (lv_args 0 [.ref 93, .ref 20]) [] (j_stf jh2 93 14 (.int 1)) 0 0 497 19935)) 0 0 497 19935)) 93 10 (.int 0)) 0 0 497 19935))) (fr2 := 498) (lo2 := 19957) jF_165_2 (by decide +kernel) rfl (show j_cnd 499 19978 498 19957 2 _ _ = true from rfl) ?_) ?_
  · exact jr_upl (pl_fitting_1 0) (by omega)
  refine Eq.trans (jr_s (pc2 := 6) (lv2 := [(0, .ref 93), (1, .ref 20), (2, .int 1)]) (st2 := [.int 1]) jF_165_5 rfl rfl) ?_
  refine Eq.trans (jr_s (pc2 := 37) (lv2 := [(0, .ref 93), (1, .ref 20), (2, .int 1)]) (st2 := []) jF_165_6 rfl rfl) ?_
  refine Eq.trans (jr_s (pc2 := 38) (lv2 := [(0, .ref 93), (1, .ref 20), (2, .int 1)]) (st2 := [.ref 93]) jF_165_37 rfl rfl) ?_
  refine Eq.trans (jr_gf (v := .int 0) jF_165_38 (by decide +kernel)) ?_
  refine Eq.trans (jr_if0 jF_165_41 (by decide +kernel)) ?_
  refine Eq.trans (jr_s (pc2 := 45) (lv2 := [(0, .ref 93), (1, .ref 20), (2, .int 1)]) (st2 := [.int 0]) jF_165_44 rfl rfl) ?_
  refine Eq.trans (jr_s (pc2 := 55) (lv2 := [(0, .ref 93), (1, .ref 20), (2, .int 1)]) (st2 := [.int 0]) jF_165_45 rfl rfl) ?_
  exact jr_ri jF_165_55 rfl
set_option maxHeartbeats 8000000 in
set_option maxRecDepth 100000 in
theorem pl_fitting_4 (n : Nat) : JR (n + 40244) 165 0 (lv_args 0 [.ref 93, .ref 20, .int 2]) [] jh2 0 0 499 19978 = some (some (.int 0), (j_hp (JR 25 132 0 (lv_args 0 [.ref 93, .ref 20]) [] (j_stf (j_hp (JR 25 128 0 (lv_args 0 [.ref 93]) [] (j_hp (JR 305 127 0 (lv_args 0 [.ref 93, .ref 20]) [] (j_stf jh2 93 14 (.int 1)) 0 0 497 19935)) 0 0 497 19935)) 93 10 (.int 0)) 0 0 497 19935)), 0, 0) := by
  refine Eq.trans (jr_s (pc2 := 1) (lv2 := [(0, .ref 93), (1, .ref 20), (2, .int 2)]) (st2 := [.ref 93]) jF_165_0 rfl rfl) ?_
  refine Eq.trans (jr_s (pc2 := 2) (lv2 := [(0, .ref 93), (1, .ref 20), (2, .int 2)]) (st2 := [.ref 20, .ref 93]) jF_165_1 rfl rfl) ?_
  refine Eq.trans (jr_cV (a := 93) (as := [.ref 20]) (rest := []) (v := none) (hp2 := (j_hp (JR 25 132 0 (lv_args 0 [.ref 93, .ref 20]) [] (j_stf (j_hp (JR 25 128 0 (lv_args 0 [.ref 93]) [] (j_hp (JR 305 127 0 (lv_args 0 [.ref 93, .ref 20]) [] (j_stf jh2 93 14 (.int 1)) 0 0 497 19935)) 0 0 497 19935)) 93 10 (.int 0)) 0 0 497 19935))) (fr2 := 498) (lo2 := 19957) jF_165_2 (by decide +kernel) rfl (show j_cnd 499 19978 498 19957 2 _ _ = true from rfl) ?_) ?_
  · exact jr_upl (pl_fitting_1 0) (by omega)
  refine Eq.trans (jr_s (pc2 := 6) (lv2 := [(0, .ref 93), (1, .ref 20), (2, .int 2)]) (st2 := [.int 2]) jF_165_5 rfl rfl) ?_
  refine Eq.trans (jr_s (pc2 := 56) (lv2 := [(0, .ref 93), (1, .ref 20), (2, .int 2)]) (st2 := []) jF_165_6 rfl rfl) ?_
  refine Eq.trans (jr_s (pc2 := 57) (lv2 := [(0, .ref 93), (1, .ref 20), (2, .int 2)]) (st2 := [.ref 93]) jF_165_56 rfl rfl) ?_
  refine Eq.trans (jr_gf (v := .long 0) jF_165_57 (by decide +kernel)) ?_
  refine Eq.trans (jr_cS (as := [.long 0]) (rest := []) (v := some (.int 0)) (hp2 := (j_hp (JR 25 132 0 (lv_args 0 [.ref 93, .ref 20]) [] (j_stf (j_hp (JR 25 128 0 (lv_args 0 [.ref 93]) [] (j_hp (JR 305 127 0 (lv_args 0 [.ref 93, .ref 20]) [] (j_stf jh2 93 14 (.int 1)) 0 0 497 19935)) 0 0 497 19935)) 93 10 (.int 0)) 0 0 497 19935))) (fr2 := 498) (lo2 := 19957) jF_165_60 rfl (show j_cnd 499 19978 498 19957 2 _ _ = true from rfl) ?_) ?_
  · refine Eq.trans (jr_s (pc2 := 1) (lv2 := [(0, .long 0)]) (st2 := [.long 0]) jF_96_0 rfl rfl) ?_
    refine Eq.trans (jr_s (pc2 := 2) (lv2 := [(0, .long 0)]) (st2 := [.long 0, .long 0]) jF_96_1 rfl rfl) ?_
    refine Eq.trans (jr_s (pc2 := 3) (lv2 := [(0, .long 0)]) (st2 := [.int 1, .long 0, .long 0]) jF_96_2 rfl rfl) ?_
    refine Eq.trans (jr_s (pc2 := 4) (lv2 := [(0, .long 0)]) (st2 := [.long 0, .long 0]) jF_96_3 rfl rfl) ?_
    refine Eq.trans (jr_s (pc2 := 7) (lv2 := [(0, .long 0)]) (st2 := [.long 6148914691236517205, .long 0, .long 0]) jF_96_4 rfl rfl) ?_
    refine Eq.trans (jr_s (pc2 := 8) (lv2 := [(0, .long 0)]) (st2 := [.long 0, .long 0]) jF_96_7 rfl rfl) ?_
    refine Eq.trans (jr_s (pc2 := 9) (lv2 := [(0, .long 0)]) (st2 := [.long 0]) jF_96_8 rfl rfl) ?_
    refine Eq.trans (jr_s (pc2 := 10) (lv2 := [(0, .long 0)]) (st2 := []) jF_96_9 rfl rfl) ?_
    refine Eq.trans (jr_s (pc2 := 11) (lv2 := [(0, .long 0)]) (st2 := [.long 0]) jF_96_10 rfl rfl) ?_
    refine Eq.trans (jr_s (pc2 := 14) (lv2 := [(0, .long 0)]) (st2 := [.long 3689348814741910323, .long 0]) jF_96_11 rfl rfl) ?_
    refine Eq.trans (jr_s (pc2 := 15) (lv2 := [(0, .long 0)]) (st2 := [.long 0]) jF_96_14 rfl rfl) ?_
    refine Eq.trans (jr_s (pc2 := 16) (lv2 := [(0, .long 0)]) (st2 := [.long 0, .long 0]) jF_96_15 rfl rfl) ?_
    refine Eq.trans (jr_s (pc2 := 17) (lv2 := [(0, .long 0)]) (st2 := [.int 2, .long 0, .long 0]) jF_96_16 rfl rfl) ?_
    refine Eq.trans (jr_s (pc2 := 18) (lv2 := [(0, .long 0)]) (st2 := [.long 0, .long 0]) jF_96_17 rfl rfl) ?_
    refine Eq.trans (jr_s (pc2 := 21) (lv2 := [(0, .long 0)]) (st2 := [.long 3689348814741910323, .long 0, .long 0]) jF_96_18 rfl rfl) ?_
    refine Eq.trans (jr_s (pc2 := 22) (lv2 := [(0, .long 0)]) (st2 := [.long 0, .long 0]) jF_96_21 rfl rfl) ?_
    refine Eq.trans (jr_s (pc2 := 23) (lv2 := [(0, .long 0)]) (st2 := [.long 0]) jF_96_22 rfl rfl) ?_
    refine Eq.trans (jr_s (pc2 := 24) (lv2 := [(0, .long 0)]) (st2 := []) jF_96_23 rfl rfl) ?_
    refine Eq.trans (jr_s (pc2 := 25) (lv2 := [(0, .long 0)]) (st2 := [.long 0]) jF_96_24 rfl rfl) ?_
    refine Eq.trans (jr_s (pc2 := 26) (lv2 := [(0, .long 0)]) (st2 := [.long 0, .long 0]) jF_96_25 rfl rfl) ?_
    refine Eq.trans (jr_s (pc2 := 27) (lv2 := [(0, .long 0)]) (st2 := [.int 4, .long 0, .long 0]) jF_96_26 rfl rfl) ?_
    refine Eq.trans (jr_s (pc2 := 28) (lv2 := [(0, .long 0)]) (st2 := [.long 0, .long 0]) jF_96_27 rfl rfl) ?_
    refine Eq.trans (jr_s (pc2 := 29) (lv2 := [(0, .long 0)]) (st2 := [.long 0]) jF_96_28 rfl rfl) ?_
    refine Eq.trans (jr_s (pc2 := 32) (lv2 := [(0, .long 0)]) (st2 := [.long 1085102592571150095, .long 0]) jF_96_29 rfl rfl) ?_
    refine Eq.trans (jr_s (pc2 := 33) (lv2 := [(0, .long 0)]) (st2 := [.long 0]) jF_96_32 rfl rfl) ?_
    refine Eq.trans (jr_s (pc2 := 34) (lv2 := [(0, .long 0)]) (st2 := []) jF_96_33 rfl rfl) ?_
    refine Eq.trans (jr_s (pc2 := 35) (lv2 := [(0, .long 0)]) (st2 := [.long 0]) jF_96_34 rfl rfl) ?_
    refine Eq.trans (jr_s (pc2 := 36) (lv2 := [(0, .long 0)]) (st2 := [.long 0, .long 0]) jF_96_35 rfl rfl) ?_
    refine Eq.trans (jr_s (pc2 := 38) (lv2 := [(0, .long 0)]) (st2 := [.int 8, .long 0, .long 0]) jF_96_36 rfl rfl) ?_
    refine Eq.trans (jr_s (pc2 := 39) (lv2 := [(0, .long 0)]) (st2 := [.long 0, .long 0]) jF_96_38 rfl rfl) ?_
    refine Eq.trans (jr_s (pc2 := 40) (lv2 := [(0, .long 0)]) (st2 := [.long 0]) jF_96_39 rfl rfl) ?_
    refine Eq.trans (jr_s (pc2 := 41) (lv2 := [(0, .long 0)]) (st2 := []) jF_96_40 rfl rfl) ?_
    refine Eq.trans (jr_s (pc2 := 42) (lv2 := [(0, .long 0)]) (st2 := [.long 0]) jF_96_41 rfl rfl) ?_
    refine Eq.trans (jr_s (pc2 := 43) (lv2 := [(0, .long 0)]) (st2 := [.long 0, .long 0]) jF_96_42 rfl rfl) ?_
    refine Eq.trans (jr_s (pc2 := 45) (lv2 := [(0, .long 0)]) (st2 := [.int 16, .long 0, .long 0]) jF_96_43 rfl rfl) ?_
    refine Eq.trans (jr_s (pc2 := 46) (lv2 := [(0, .long 0)]) (st2 := [.long 0, .long 0]) jF_96_45 rfl rfl) ?_
    refine Eq.trans (jr_s (pc2 := 47) (lv2 := [(0, .long 0)]) (st2 := [.long 0]) jF_96_46 rfl rfl) ?_
    refine Eq.trans (jr_s (pc2 := 48) (lv2 := [(0, .long 0)]) (st2 := []) jF_96_47 rfl rfl) ?_
    refine Eq.trans (jr_s (pc2 := 49) (lv2 := [(0, .long 0)]) (st2 := [.long 0]) jF_96_48 rfl rfl) ?_
    refine Eq.trans (jr_s (pc2 := 50) (lv2 := [(0, .long 0)]) (st2 := [.long 0, .long 0]) jF_96_49 rfl rfl) ?_
    refine Eq.trans (jr_s (pc2 := 52) (lv2 := [(0, .long 0)]) (st2 := [.int 32, .long 0, .long 0]) jF_96_50 rfl rfl) ?_
    refine Eq.trans (jr_s (pc2 := 53) (lv2 := [(0, .long 0)]) (st2 := [.long 0, .long 0]) jF_96_52 rfl rfl) ?_
    refine Eq.trans (jr_s (pc2 := 54) (lv2 := [(0, .long 0)]) (st2 := [.long 0]) jF_96_53 rfl rfl) ?_
    refine Eq.trans (jr_s (pc2 := 55) (lv2 := [(0, .long 0)]) (st2 := []) jF_96_54 rfl rfl) ?_
    refine Eq.trans (jr_s (pc2 := 56) (lv2 := [(0, .long 0)]) (st2 := [.long 0]) jF_96_55 rfl rfl) ?_
    refine Eq.trans (jr_s (pc2 := 57) (lv2 := [(0, .long 0)]) (st2 := [.int 0]) jF_96_56 rfl rfl) ?_
    refine Eq.trans (jr_s (pc2 := 59) (lv2 := [(0, .long 0)]) (st2 := [.int 127, .int 0]) jF_96_57 rfl rfl) ?_
    refine Eq.trans (jr_s (pc2 := 60) (lv2 := [(0, .long 0)]) (st2 := [.int 0]) jF_96_59 rfl rfl) ?_
    exact jr_ri jF_96_60 rfl
  exact jr_ri jF_165_63 rfl
set_option maxHeartbeats 8000000 in
set_option maxRecDepth 100000 in
theorem pm_fitting (a1 : Int32) : PM 164 320 [.int a1] := by
  have ub_a1 := Int32.toInt_lt a1
  have lb_a1 := Int32.le_toInt a1
  rcases j_ilt a1.toInt 0 with h_a1_0 | h_a1_0
  · refine ⟨60000, 60000, (-1), (j_hp (JR 25 132 0 (lv_args 0 [.ref 93, .ref 20]) [] (j_stf (j_hp (JR 25 128 0 (lv_args 0 [.ref 93]) [] (j_hp (JR 305 127 0 (lv_args 0 [.ref 93, .ref 20]) [] (j_stf jh2 93 14 (.int 1)) 0 0 497 19935)) 0 0 497 19935)) 93 10 (.int 0)) 0 0 497 19935)), (j_hp (JR 25 132 0 (lv_args 0 [.ref 93, .ref 20]) [] (j_stf (j_hp (JR 25 128 0 (lv_args 0 [.ref 93]) [] (j_hp (JR 305 127 0 (lv_args 0 [.ref 93, .ref 20]) [] (j_stf jh2 93 14 (.int 1)) 0 0 497 19935)) 0 0 497 19935)) 93 10 (.int 0)) 0 0 497 19935)), ?_, ?_, by decide +kernel⟩
    · refine Eq.trans (jr_s (pc2 := 1) (lv2 := [(0, .ref 9), (1, .int a1)]) (st2 := [.ref 9]) jF_164_0 rfl rfl) ?_
      refine Eq.trans (jr_gf (v := .ref 93) jF_164_1 (by decide +kernel)) ?_
      refine Eq.trans (jr_s (pc2 := 5) (lv2 := [(0, .ref 9), (1, .int a1)]) (st2 := [.ref 9, .ref 93]) jF_164_4 rfl rfl) ?_
      refine Eq.trans (jr_gf (v := .ref 20) jF_164_5 (by decide +kernel)) ?_
      refine Eq.trans (jr_s (pc2 := 9) (lv2 := [(0, .ref 9), (1, .int a1)]) (st2 := [.int a1, .ref 20, .ref 93]) jF_164_8 rfl rfl) ?_
      refine Eq.trans (jr_cV (a := 93) (as := [.ref 20, .int a1]) (rest := []) (v := some (.int (-1))) (hp2 := (j_hp (JR 25 132 0 (lv_args 0 [.ref 93, .ref 20]) [] (j_stf (j_hp (JR 25 128 0 (lv_args 0 [.ref 93]) [] (j_hp (JR 305 127 0 (lv_args 0 [.ref 93, .ref 20]) [] (j_stf jh2 93 14 (.int 1)) 0 0 497 19935)) 0 0 497 19935)) 93 10 (.int 0)) 0 0 497 19935))) (fr2 := 499) (lo2 := 19978) jF_164_9 (by decide +kernel) rfl (show j_cnd 500 20000 499 19978 3 _ _ = true from rfl) ?_) ?_
      · refine Eq.trans (jr_s (pc2 := 1) (lv2 := [(0, .ref 93), (1, .ref 20), (2, .int a1)]) (st2 := [.ref 93]) jF_165_0 rfl rfl) ?_
        refine Eq.trans (jr_s (pc2 := 2) (lv2 := [(0, .ref 93), (1, .ref 20), (2, .int a1)]) (st2 := [.ref 20, .ref 93]) jF_165_1 rfl rfl) ?_
        refine Eq.trans (jr_cV (a := 93) (as := [.ref 20]) (rest := []) (v := none) (hp2 := (j_hp (JR 25 132 0 (lv_args 0 [.ref 93, .ref 20]) [] (j_stf (j_hp (JR 25 128 0 (lv_args 0 [.ref 93]) [] (j_hp (JR 305 127 0 (lv_args 0 [.ref 93, .ref 20]) [] (j_stf jh2 93 14 (.int 1)) 0 0 497 19935)) 0 0 497 19935)) 93 10 (.int 0)) 0 0 497 19935))) (fr2 := 498) (lo2 := 19957) jF_165_2 (by decide +kernel) rfl (show j_cnd 499 19978 498 19957 2 _ _ = true from rfl) ?_) ?_
        · exact jr_upl (pl_fitting_1 0) (by omega)
        refine Eq.trans (jr_s (pc2 := 6) (lv2 := [(0, .ref 93), (1, .ref 20), (2, .int a1)]) (st2 := [.int a1]) jF_165_5 rfl rfl) ?_
        refine Eq.trans (jr_ts jF_165_6 (Or.inl (by omega)) (tgt := 64) rfl) ?_
        refine Eq.trans (jr_s (pc2 := 65) (lv2 := [(0, .ref 93), (1, .ref 20), (2, .int a1)]) (st2 := [.int (-1)]) jF_165_64 rfl rfl) ?_
        exact jr_ri jF_165_65 rfl
      exact jr_ri jF_164_12 rfl
    · refine Eq.trans (jr_s (pc2 := 1) (lv2 := [(0, .ref 117), (1, .int a1)]) (st2 := [.int a1]) jF_320_0 rfl rfl) ?_
      refine Eq.trans (jr_s (pc2 := 2) (lv2 := [(0, .ref 117), (1, .int a1)]) (st2 := [.long (Int32.toInt64 a1)]) jF_320_1 rfl rfl) ?_
      refine Eq.trans (jr_s (pc2 := 3) (lv2 := [(0, .ref 117), (1, .int a1)]) (st2 := [.long 0, .long (Int32.toInt64 a1)]) jF_320_2 rfl rfl) ?_
      refine Eq.trans (jr_s (pc2 := 6) (lv2 := [(0, .ref 117), (1, .int a1)]) (st2 := [.long 2, .long 0, .long (Int32.toInt64 a1)]) jF_320_3 rfl rfl) ?_
      refine Eq.trans (jr_cS (as := [.long (Int32.toInt64 a1), .long 0, .long 2]) (rest := []) (v := some (.int 0)) (hp2 := (j_hp (JR 25 132 0 (lv_args 0 [.ref 93, .ref 20]) [] (j_stf (j_hp (JR 25 128 0 (lv_args 0 [.ref 93]) [] (j_hp (JR 305 127 0 (lv_args 0 [.ref 93, .ref 20]) [] (j_stf jh2 93 14 (.int 1)) 0 0 497 19935)) 0 0 497 19935)) 93 10 (.int 0)) 0 0 497 19935))) (fr2 := 499) (lo2 := 19975) jF_320_6 rfl (show j_cnd 500 20000 499 19975 6 _ _ = true from rfl) ?_) ?_
      · refine Eq.trans (jr_s (pc2 := 1) (lv2 := [(0, .long (Int32.toInt64 a1)), (2, .long 0), (4, .long 2)]) (st2 := [.long (Int32.toInt64 a1)]) jF_232_0 rfl rfl) ?_
        refine Eq.trans (jr_s (pc2 := 2) (lv2 := [(0, .long (Int32.toInt64 a1)), (2, .long 0), (4, .long 2)]) (st2 := [.long 0, .long (Int32.toInt64 a1)]) jF_232_1 rfl rfl) ?_
        refine Eq.trans (jr_s (pc2 := 3) (lv2 := [(0, .long (Int32.toInt64 a1)), (2, .long 0), (4, .long 2)]) (st2 := [.int (lg_cmp (Int32.toInt64 a1) 0)]) jF_232_2 rfl rfl) ?_
        refine Eq.trans (jr_if1 jF_232_3 (jkl_lt_lt (show ((Int32.toInt64 a1) : Int64).toInt < (0 : Int64).toInt by rw [Int32.toInt_toInt64, show (0 : Int64).toInt = 0 from by decide]; omega))) ?_
        refine Eq.trans (jr_s (pc2 := 18) (lv2 := [(0, .long (Int32.toInt64 a1)), (2, .long 0), (4, .long 2)]) (st2 := [.int 0]) jF_232_17 rfl rfl) ?_
        exact jr_ri jF_232_18 rfl
      refine Eq.trans (jr_if0 jF_320_9 (by decide +kernel)) ?_
      refine Eq.trans (jr_s (pc2 := 13) (lv2 := [(0, .ref 117), (1, .int a1)]) (st2 := [.int (-1)]) jF_320_12 rfl rfl) ?_
      exact jr_ri jF_320_13 rfl
  · rcases j_ilt a1.toInt 1 with h_a1_1 | h_a1_1
    · obtain rfl : a1 = 0 := Int32.toInt_inj.mp (by rw [show (0 : Int32).toInt = 0 from by decide]; omega)
      refine ⟨60000, 60000, 0, (j_hp (JR 25 132 0 (lv_args 0 [.ref 93, .ref 20]) [] (j_stf (j_hp (JR 25 128 0 (lv_args 0 [.ref 93]) [] (j_hp (JR 305 127 0 (lv_args 0 [.ref 93, .ref 20]) [] (j_stf jh2 93 14 (.int 1)) 0 0 497 19935)) 0 0 497 19935)) 93 10 (.int 0)) 0 0 497 19935)), (j_hp (JR 25 132 0 (lv_args 0 [.ref 93, .ref 20]) [] (j_stf (j_hp (JR 25 128 0 (lv_args 0 [.ref 93]) [] (j_hp (JR 305 127 0 (lv_args 0 [.ref 93, .ref 20]) [] (j_stf jh2 93 14 (.int 1)) 0 0 497 19935)) 0 0 497 19935)) 93 10 (.int 0)) 0 0 497 19935)), ?_, ?_, by decide +kernel⟩
      · refine Eq.trans (jr_s (pc2 := 1) (lv2 := [(0, .ref 9), (1, .int 0)]) (st2 := [.ref 9]) jF_164_0 rfl rfl) ?_
        refine Eq.trans (jr_gf (v := .ref 93) jF_164_1 (by decide +kernel)) ?_
        refine Eq.trans (jr_s (pc2 := 5) (lv2 := [(0, .ref 9), (1, .int 0)]) (st2 := [.ref 9, .ref 93]) jF_164_4 rfl rfl) ?_
        refine Eq.trans (jr_gf (v := .ref 20) jF_164_5 (by decide +kernel)) ?_
        refine Eq.trans (jr_s (pc2 := 9) (lv2 := [(0, .ref 9), (1, .int 0)]) (st2 := [.int 0, .ref 20, .ref 93]) jF_164_8 rfl rfl) ?_
        refine Eq.trans (jr_cV (a := 93) (as := [.ref 20, .int 0]) (rest := []) (v := some (.int 0)) (hp2 := (j_hp (JR 25 132 0 (lv_args 0 [.ref 93, .ref 20]) [] (j_stf (j_hp (JR 25 128 0 (lv_args 0 [.ref 93]) [] (j_hp (JR 305 127 0 (lv_args 0 [.ref 93, .ref 20]) [] (j_stf jh2 93 14 (.int 1)) 0 0 497 19935)) 0 0 497 19935)) 93 10 (.int 0)) 0 0 497 19935))) (fr2 := 499) (lo2 := 19978) jF_164_9 (by decide +kernel) rfl (show j_cnd 500 20000 499 19978 3 _ _ = true from rfl) ?_) ?_
        · exact jr_upl (pl_fitting_2 0) (by omega)
        exact jr_ri jF_164_12 rfl
      · refine Eq.trans (jr_s (pc2 := 1) (lv2 := [(0, .ref 117), (1, .int 0)]) (st2 := [.int 0]) jF_320_0 rfl rfl) ?_
        refine Eq.trans (jr_s (pc2 := 2) (lv2 := [(0, .ref 117), (1, .int 0)]) (st2 := [.long 0]) jF_320_1 rfl rfl) ?_
        refine Eq.trans (jr_s (pc2 := 3) (lv2 := [(0, .ref 117), (1, .int 0)]) (st2 := [.long 0, .long 0]) jF_320_2 rfl rfl) ?_
        refine Eq.trans (jr_s (pc2 := 6) (lv2 := [(0, .ref 117), (1, .int 0)]) (st2 := [.long 2, .long 0, .long 0]) jF_320_3 rfl rfl) ?_
        refine Eq.trans (jr_cS (as := [.long 0, .long 0, .long 2]) (rest := []) (v := some (.int 1)) (hp2 := (j_hp (JR 25 132 0 (lv_args 0 [.ref 93, .ref 20]) [] (j_stf (j_hp (JR 25 128 0 (lv_args 0 [.ref 93]) [] (j_hp (JR 305 127 0 (lv_args 0 [.ref 93, .ref 20]) [] (j_stf jh2 93 14 (.int 1)) 0 0 497 19935)) 0 0 497 19935)) 93 10 (.int 0)) 0 0 497 19935))) (fr2 := 499) (lo2 := 19975) jF_320_6 rfl (show j_cnd 500 20000 499 19975 6 _ _ = true from rfl) ?_) ?_
        · refine Eq.trans (jr_s (pc2 := 1) (lv2 := [(0, .long 0), (2, .long 0), (4, .long 2)]) (st2 := [.long 0]) jF_232_0 rfl rfl) ?_
          refine Eq.trans (jr_s (pc2 := 2) (lv2 := [(0, .long 0), (2, .long 0), (4, .long 2)]) (st2 := [.long 0, .long 0]) jF_232_1 rfl rfl) ?_
          refine Eq.trans (jr_s (pc2 := 3) (lv2 := [(0, .long 0), (2, .long 0), (4, .long 2)]) (st2 := [.int 0]) jF_232_2 rfl rfl) ?_
          refine Eq.trans (jr_if0 jF_232_3 (by decide +kernel)) ?_
          refine Eq.trans (jr_s (pc2 := 7) (lv2 := [(0, .long 0), (2, .long 0), (4, .long 2)]) (st2 := [.long 0]) jF_232_6 rfl rfl) ?_
          refine Eq.trans (jr_s (pc2 := 9) (lv2 := [(0, .long 0), (2, .long 0), (4, .long 2)]) (st2 := [.long 2, .long 0]) jF_232_7 rfl rfl) ?_
          refine Eq.trans (jr_s (pc2 := 10) (lv2 := [(0, .long 0), (2, .long 0), (4, .long 2)]) (st2 := [.int (-1)]) jF_232_9 rfl rfl) ?_
          refine Eq.trans (jr_if0 jF_232_10 (by decide +kernel)) ?_
          refine Eq.trans (jr_s (pc2 := 14) (lv2 := [(0, .long 0), (2, .long 0), (4, .long 2)]) (st2 := [.int 1]) jF_232_13 rfl rfl) ?_
          refine Eq.trans (jr_s (pc2 := 18) (lv2 := [(0, .long 0), (2, .long 0), (4, .long 2)]) (st2 := [.int 1]) jF_232_14 rfl rfl) ?_
          exact jr_ri jF_232_18 rfl
        refine Eq.trans (jr_if1 jF_320_9 (by decide +kernel)) ?_
        refine Eq.trans (jr_s (pc2 := 15) (lv2 := [(0, .ref 117), (1, .int 0)]) (st2 := [.int 0]) jF_320_14 rfl rfl) ?_
        refine Eq.trans (jr_s (pc2 := 16) (lv2 := [(2, .int 0), (0, .ref 117), (1, .int 0)]) (st2 := []) jF_320_15 rfl rfl) ?_
        refine Eq.trans (jr_s (pc2 := 17) (lv2 := [(2, .int 0), (0, .ref 117), (1, .int 0)]) (st2 := [.ref 117]) jF_320_16 rfl rfl) ?_
        refine Eq.trans (jr_gf (v := .long 0) jF_320_17 (by decide +kernel)) ?_
        refine Eq.trans (jr_s (pc2 := 21) (lv2 := [(3, .long 0), (2, .int 0), (0, .ref 117), (1, .int 0)]) (st2 := []) jF_320_20 rfl rfl) ?_
        refine Eq.trans (jr_s (pc2 := 22) (lv2 := [(3, .long 0), (2, .int 0), (0, .ref 117), (1, .int 0)]) (st2 := [.long 0]) jF_320_21 rfl rfl) ?_
        refine Eq.trans (jr_s (pc2 := 24) (lv2 := [(5, .long 0), (3, .long 0), (2, .int 0), (0, .ref 117), (1, .int 0)]) (st2 := []) jF_320_22 rfl rfl) ?_
        refine Eq.trans (jr_s (pc2 := 25) (lv2 := [(5, .long 0), (3, .long 0), (2, .int 0), (0, .ref 117), (1, .int 0)]) (st2 := [.int 0]) jF_320_24 rfl rfl) ?_
        refine Eq.trans (jr_s (pc2 := 27) (lv2 := [(7, .int 0), (5, .long 0), (3, .long 0), (2, .int 0), (0, .ref 117), (1, .int 0)]) (st2 := []) jF_320_25 rfl rfl) ?_
        refine Eq.trans (jr_s (pc2 := 29) (lv2 := [(7, .int 0), (5, .long 0), (3, .long 0), (2, .int 0), (0, .ref 117), (1, .int 0)]) (st2 := [.int 0]) jF_320_27 rfl rfl) ?_
        refine Eq.trans (jr_s (pc2 := 30) (lv2 := [(7, .int 0), (5, .long 0), (3, .long 0), (2, .int 0), (0, .ref 117), (1, .int 0)]) (st2 := [.ref 117, .int 0]) jF_320_29 rfl rfl) ?_
        refine Eq.trans (jr_gf (v := .int 0) jF_320_30 (by decide +kernel)) ?_
        refine Eq.trans (jr_ic1 jF_320_33 (by decide +kernel)) ?_
        refine Eq.trans (jr_s (pc2 := 80) (lv2 := [(7, .int 0), (5, .long 0), (3, .long 0), (2, .int 0), (0, .ref 117), (1, .int 0)]) (st2 := [.int 0]) jF_320_79 rfl rfl) ?_
        refine Eq.trans (jr_if0 jF_320_80 (by decide +kernel)) ?_
        refine Eq.trans (jr_s (pc2 := 84) (lv2 := [(7, .int 0), (5, .long 0), (3, .long 0), (2, .int 0), (0, .ref 117), (1, .int 0)]) (st2 := [.int 0]) jF_320_83 rfl rfl) ?_
        refine Eq.trans (jr_s (pc2 := 112) (lv2 := [(7, .int 0), (5, .long 0), (3, .long 0), (2, .int 0), (0, .ref 117), (1, .int 0)]) (st2 := [.int 0]) jF_320_84 rfl rfl) ?_
        exact jr_ri jF_320_112 rfl
    · rcases j_ilt a1.toInt 2 with h_a1_2 | h_a1_2
      · obtain rfl : a1 = 1 := Int32.toInt_inj.mp (by rw [show (1 : Int32).toInt = 1 from by decide]; omega)
        refine ⟨60000, 60000, 0, (j_hp (JR 25 132 0 (lv_args 0 [.ref 93, .ref 20]) [] (j_stf (j_hp (JR 25 128 0 (lv_args 0 [.ref 93]) [] (j_hp (JR 305 127 0 (lv_args 0 [.ref 93, .ref 20]) [] (j_stf jh2 93 14 (.int 1)) 0 0 497 19935)) 0 0 497 19935)) 93 10 (.int 0)) 0 0 497 19935)), (j_hp (JR 25 132 0 (lv_args 0 [.ref 93, .ref 20]) [] (j_stf (j_hp (JR 25 128 0 (lv_args 0 [.ref 93]) [] (j_hp (JR 305 127 0 (lv_args 0 [.ref 93, .ref 20]) [] (j_stf jh2 93 14 (.int 1)) 0 0 497 19935)) 0 0 497 19935)) 93 10 (.int 0)) 0 0 497 19935)), ?_, ?_, by decide +kernel⟩
        · refine Eq.trans (jr_s (pc2 := 1) (lv2 := [(0, .ref 9), (1, .int 1)]) (st2 := [.ref 9]) jF_164_0 rfl rfl) ?_
          refine Eq.trans (jr_gf (v := .ref 93) jF_164_1 (by decide +kernel)) ?_
          refine Eq.trans (jr_s (pc2 := 5) (lv2 := [(0, .ref 9), (1, .int 1)]) (st2 := [.ref 9, .ref 93]) jF_164_4 rfl rfl) ?_
          refine Eq.trans (jr_gf (v := .ref 20) jF_164_5 (by decide +kernel)) ?_
          refine Eq.trans (jr_s (pc2 := 9) (lv2 := [(0, .ref 9), (1, .int 1)]) (st2 := [.int 1, .ref 20, .ref 93]) jF_164_8 rfl rfl) ?_
          refine Eq.trans (jr_cV (a := 93) (as := [.ref 20, .int 1]) (rest := []) (v := some (.int 0)) (hp2 := (j_hp (JR 25 132 0 (lv_args 0 [.ref 93, .ref 20]) [] (j_stf (j_hp (JR 25 128 0 (lv_args 0 [.ref 93]) [] (j_hp (JR 305 127 0 (lv_args 0 [.ref 93, .ref 20]) [] (j_stf jh2 93 14 (.int 1)) 0 0 497 19935)) 0 0 497 19935)) 93 10 (.int 0)) 0 0 497 19935))) (fr2 := 499) (lo2 := 19978) jF_164_9 (by decide +kernel) rfl (show j_cnd 500 20000 499 19978 3 _ _ = true from rfl) ?_) ?_
          · exact jr_upl (pl_fitting_3 0) (by omega)
          exact jr_ri jF_164_12 rfl
        · refine Eq.trans (jr_s (pc2 := 1) (lv2 := [(0, .ref 117), (1, .int 1)]) (st2 := [.int 1]) jF_320_0 rfl rfl) ?_
          refine Eq.trans (jr_s (pc2 := 2) (lv2 := [(0, .ref 117), (1, .int 1)]) (st2 := [.long 1]) jF_320_1 rfl rfl) ?_
          refine Eq.trans (jr_s (pc2 := 3) (lv2 := [(0, .ref 117), (1, .int 1)]) (st2 := [.long 0, .long 1]) jF_320_2 rfl rfl) ?_
          refine Eq.trans (jr_s (pc2 := 6) (lv2 := [(0, .ref 117), (1, .int 1)]) (st2 := [.long 2, .long 0, .long 1]) jF_320_3 rfl rfl) ?_
          refine Eq.trans (jr_cS (as := [.long 1, .long 0, .long 2]) (rest := []) (v := some (.int 1)) (hp2 := (j_hp (JR 25 132 0 (lv_args 0 [.ref 93, .ref 20]) [] (j_stf (j_hp (JR 25 128 0 (lv_args 0 [.ref 93]) [] (j_hp (JR 305 127 0 (lv_args 0 [.ref 93, .ref 20]) [] (j_stf jh2 93 14 (.int 1)) 0 0 497 19935)) 0 0 497 19935)) 93 10 (.int 0)) 0 0 497 19935))) (fr2 := 499) (lo2 := 19975) jF_320_6 rfl (show j_cnd 500 20000 499 19975 6 _ _ = true from rfl) ?_) ?_
          · refine Eq.trans (jr_s (pc2 := 1) (lv2 := [(0, .long 1), (2, .long 0), (4, .long 2)]) (st2 := [.long 1]) jF_232_0 rfl rfl) ?_
            refine Eq.trans (jr_s (pc2 := 2) (lv2 := [(0, .long 1), (2, .long 0), (4, .long 2)]) (st2 := [.long 0, .long 1]) jF_232_1 rfl rfl) ?_
            refine Eq.trans (jr_s (pc2 := 3) (lv2 := [(0, .long 1), (2, .long 0), (4, .long 2)]) (st2 := [.int 1]) jF_232_2 rfl rfl) ?_
            refine Eq.trans (jr_if0 jF_232_3 (by decide +kernel)) ?_
            refine Eq.trans (jr_s (pc2 := 7) (lv2 := [(0, .long 1), (2, .long 0), (4, .long 2)]) (st2 := [.long 1]) jF_232_6 rfl rfl) ?_
            refine Eq.trans (jr_s (pc2 := 9) (lv2 := [(0, .long 1), (2, .long 0), (4, .long 2)]) (st2 := [.long 2, .long 1]) jF_232_7 rfl rfl) ?_
            refine Eq.trans (jr_s (pc2 := 10) (lv2 := [(0, .long 1), (2, .long 0), (4, .long 2)]) (st2 := [.int (-1)]) jF_232_9 rfl rfl) ?_
            refine Eq.trans (jr_if0 jF_232_10 (by decide +kernel)) ?_
            refine Eq.trans (jr_s (pc2 := 14) (lv2 := [(0, .long 1), (2, .long 0), (4, .long 2)]) (st2 := [.int 1]) jF_232_13 rfl rfl) ?_
            refine Eq.trans (jr_s (pc2 := 18) (lv2 := [(0, .long 1), (2, .long 0), (4, .long 2)]) (st2 := [.int 1]) jF_232_14 rfl rfl) ?_
            exact jr_ri jF_232_18 rfl
          refine Eq.trans (jr_if1 jF_320_9 (by decide +kernel)) ?_
          refine Eq.trans (jr_s (pc2 := 15) (lv2 := [(0, .ref 117), (1, .int 1)]) (st2 := [.int 0]) jF_320_14 rfl rfl) ?_
          refine Eq.trans (jr_s (pc2 := 16) (lv2 := [(2, .int 0), (0, .ref 117), (1, .int 1)]) (st2 := []) jF_320_15 rfl rfl) ?_
          refine Eq.trans (jr_s (pc2 := 17) (lv2 := [(2, .int 0), (0, .ref 117), (1, .int 1)]) (st2 := [.ref 117]) jF_320_16 rfl rfl) ?_
          refine Eq.trans (jr_gf (v := .long 0) jF_320_17 (by decide +kernel)) ?_
          refine Eq.trans (jr_s (pc2 := 21) (lv2 := [(3, .long 0), (2, .int 0), (0, .ref 117), (1, .int 1)]) (st2 := []) jF_320_20 rfl rfl) ?_
          refine Eq.trans (jr_s (pc2 := 22) (lv2 := [(3, .long 0), (2, .int 0), (0, .ref 117), (1, .int 1)]) (st2 := [.long 0]) jF_320_21 rfl rfl) ?_
          refine Eq.trans (jr_s (pc2 := 24) (lv2 := [(5, .long 0), (3, .long 0), (2, .int 0), (0, .ref 117), (1, .int 1)]) (st2 := []) jF_320_22 rfl rfl) ?_
          refine Eq.trans (jr_s (pc2 := 25) (lv2 := [(5, .long 0), (3, .long 0), (2, .int 0), (0, .ref 117), (1, .int 1)]) (st2 := [.int 0]) jF_320_24 rfl rfl) ?_
          refine Eq.trans (jr_s (pc2 := 27) (lv2 := [(7, .int 0), (5, .long 0), (3, .long 0), (2, .int 0), (0, .ref 117), (1, .int 1)]) (st2 := []) jF_320_25 rfl rfl) ?_
          refine Eq.trans (jr_s (pc2 := 29) (lv2 := [(7, .int 0), (5, .long 0), (3, .long 0), (2, .int 0), (0, .ref 117), (1, .int 1)]) (st2 := [.int 0]) jF_320_27 rfl rfl) ?_
          refine Eq.trans (jr_s (pc2 := 30) (lv2 := [(7, .int 0), (5, .long 0), (3, .long 0), (2, .int 0), (0, .ref 117), (1, .int 1)]) (st2 := [.ref 117, .int 0]) jF_320_29 rfl rfl) ?_
          refine Eq.trans (jr_gf (v := .int 0) jF_320_30 (by decide +kernel)) ?_
          refine Eq.trans (jr_ic1 jF_320_33 (by decide +kernel)) ?_
          refine Eq.trans (jr_s (pc2 := 80) (lv2 := [(7, .int 0), (5, .long 0), (3, .long 0), (2, .int 0), (0, .ref 117), (1, .int 1)]) (st2 := [.int 1]) jF_320_79 rfl rfl) ?_
          refine Eq.trans (jr_if1 jF_320_80 (by decide +kernel)) ?_
          refine Eq.trans (jr_s (pc2 := 88) (lv2 := [(7, .int 0), (5, .long 0), (3, .long 0), (2, .int 0), (0, .ref 117), (1, .int 1)]) (st2 := [.int 1]) jF_320_87 rfl rfl) ?_
          refine Eq.trans (jr_s (pc2 := 89) (lv2 := [(7, .int 0), (5, .long 0), (3, .long 0), (2, .int 0), (0, .ref 117), (1, .int 1)]) (st2 := [.int 2, .int 1]) jF_320_88 rfl rfl) ?_
          refine Eq.trans (jr_ic1 jF_320_89 (by decide +kernel)) ?_
          refine Eq.trans (jr_s (pc2 := 101) (lv2 := [(7, .int 0), (5, .long 0), (3, .long 0), (2, .int 0), (0, .ref 117), (1, .int 1)]) (st2 := [.int 0]) jF_320_100 rfl rfl) ?_
          refine Eq.trans (jr_if0 jF_320_101 (by decide +kernel)) ?_
          refine Eq.trans (jr_s (pc2 := 105) (lv2 := [(7, .int 0), (5, .long 0), (3, .long 0), (2, .int 0), (0, .ref 117), (1, .int 1)]) (st2 := [.int 0]) jF_320_104 rfl rfl) ?_
          refine Eq.trans (jr_s (pc2 := 112) (lv2 := [(7, .int 0), (5, .long 0), (3, .long 0), (2, .int 0), (0, .ref 117), (1, .int 1)]) (st2 := [.int 0]) jF_320_105 rfl rfl) ?_
          exact jr_ri jF_320_112 rfl
      · rcases j_ilt a1.toInt 3 with h_a1_3 | h_a1_3
        · obtain rfl : a1 = 2 := Int32.toInt_inj.mp (by rw [show (2 : Int32).toInt = 2 from by decide]; omega)
          refine ⟨60000, 60000, 0, (j_hp (JR 25 132 0 (lv_args 0 [.ref 93, .ref 20]) [] (j_stf (j_hp (JR 25 128 0 (lv_args 0 [.ref 93]) [] (j_hp (JR 305 127 0 (lv_args 0 [.ref 93, .ref 20]) [] (j_stf jh2 93 14 (.int 1)) 0 0 497 19935)) 0 0 497 19935)) 93 10 (.int 0)) 0 0 497 19935)), (j_hp (JR 25 132 0 (lv_args 0 [.ref 93, .ref 20]) [] (j_stf (j_hp (JR 25 128 0 (lv_args 0 [.ref 93]) [] (j_hp (JR 305 127 0 (lv_args 0 [.ref 93, .ref 20]) [] (j_stf jh2 93 14 (.int 1)) 0 0 497 19935)) 0 0 497 19935)) 93 10 (.int 0)) 0 0 497 19935)), ?_, ?_, by decide +kernel⟩
          · refine Eq.trans (jr_s (pc2 := 1) (lv2 := [(0, .ref 9), (1, .int 2)]) (st2 := [.ref 9]) jF_164_0 rfl rfl) ?_
            refine Eq.trans (jr_gf (v := .ref 93) jF_164_1 (by decide +kernel)) ?_
            refine Eq.trans (jr_s (pc2 := 5) (lv2 := [(0, .ref 9), (1, .int 2)]) (st2 := [.ref 9, .ref 93]) jF_164_4 rfl rfl) ?_
            refine Eq.trans (jr_gf (v := .ref 20) jF_164_5 (by decide +kernel)) ?_
            refine Eq.trans (jr_s (pc2 := 9) (lv2 := [(0, .ref 9), (1, .int 2)]) (st2 := [.int 2, .ref 20, .ref 93]) jF_164_8 rfl rfl) ?_
            refine Eq.trans (jr_cV (a := 93) (as := [.ref 20, .int 2]) (rest := []) (v := some (.int 0)) (hp2 := (j_hp (JR 25 132 0 (lv_args 0 [.ref 93, .ref 20]) [] (j_stf (j_hp (JR 25 128 0 (lv_args 0 [.ref 93]) [] (j_hp (JR 305 127 0 (lv_args 0 [.ref 93, .ref 20]) [] (j_stf jh2 93 14 (.int 1)) 0 0 497 19935)) 0 0 497 19935)) 93 10 (.int 0)) 0 0 497 19935))) (fr2 := 499) (lo2 := 19978) jF_164_9 (by decide +kernel) rfl (show j_cnd 500 20000 499 19978 3 _ _ = true from rfl) ?_) ?_
            · exact jr_upl (pl_fitting_4 0) (by omega)
            exact jr_ri jF_164_12 rfl
          · refine Eq.trans (jr_s (pc2 := 1) (lv2 := [(0, .ref 117), (1, .int 2)]) (st2 := [.int 2]) jF_320_0 rfl rfl) ?_
            refine Eq.trans (jr_s (pc2 := 2) (lv2 := [(0, .ref 117), (1, .int 2)]) (st2 := [.long 2]) jF_320_1 rfl rfl) ?_
            refine Eq.trans (jr_s (pc2 := 3) (lv2 := [(0, .ref 117), (1, .int 2)]) (st2 := [.long 0, .long 2]) jF_320_2 rfl rfl) ?_
            refine Eq.trans (jr_s (pc2 := 6) (lv2 := [(0, .ref 117), (1, .int 2)]) (st2 := [.long 2, .long 0, .long 2]) jF_320_3 rfl rfl) ?_
            refine Eq.trans (jr_cS (as := [.long 2, .long 0, .long 2]) (rest := []) (v := some (.int 1)) (hp2 := (j_hp (JR 25 132 0 (lv_args 0 [.ref 93, .ref 20]) [] (j_stf (j_hp (JR 25 128 0 (lv_args 0 [.ref 93]) [] (j_hp (JR 305 127 0 (lv_args 0 [.ref 93, .ref 20]) [] (j_stf jh2 93 14 (.int 1)) 0 0 497 19935)) 0 0 497 19935)) 93 10 (.int 0)) 0 0 497 19935))) (fr2 := 499) (lo2 := 19975) jF_320_6 rfl (show j_cnd 500 20000 499 19975 6 _ _ = true from rfl) ?_) ?_
            · refine Eq.trans (jr_s (pc2 := 1) (lv2 := [(0, .long 2), (2, .long 0), (4, .long 2)]) (st2 := [.long 2]) jF_232_0 rfl rfl) ?_
              refine Eq.trans (jr_s (pc2 := 2) (lv2 := [(0, .long 2), (2, .long 0), (4, .long 2)]) (st2 := [.long 0, .long 2]) jF_232_1 rfl rfl) ?_
              refine Eq.trans (jr_s (pc2 := 3) (lv2 := [(0, .long 2), (2, .long 0), (4, .long 2)]) (st2 := [.int 1]) jF_232_2 rfl rfl) ?_
              refine Eq.trans (jr_if0 jF_232_3 (by decide +kernel)) ?_
              refine Eq.trans (jr_s (pc2 := 7) (lv2 := [(0, .long 2), (2, .long 0), (4, .long 2)]) (st2 := [.long 2]) jF_232_6 rfl rfl) ?_
              refine Eq.trans (jr_s (pc2 := 9) (lv2 := [(0, .long 2), (2, .long 0), (4, .long 2)]) (st2 := [.long 2, .long 2]) jF_232_7 rfl rfl) ?_
              refine Eq.trans (jr_s (pc2 := 10) (lv2 := [(0, .long 2), (2, .long 0), (4, .long 2)]) (st2 := [.int 0]) jF_232_9 rfl rfl) ?_
              refine Eq.trans (jr_if0 jF_232_10 (by decide +kernel)) ?_
              refine Eq.trans (jr_s (pc2 := 14) (lv2 := [(0, .long 2), (2, .long 0), (4, .long 2)]) (st2 := [.int 1]) jF_232_13 rfl rfl) ?_
              refine Eq.trans (jr_s (pc2 := 18) (lv2 := [(0, .long 2), (2, .long 0), (4, .long 2)]) (st2 := [.int 1]) jF_232_14 rfl rfl) ?_
              exact jr_ri jF_232_18 rfl
            refine Eq.trans (jr_if1 jF_320_9 (by decide +kernel)) ?_
            refine Eq.trans (jr_s (pc2 := 15) (lv2 := [(0, .ref 117), (1, .int 2)]) (st2 := [.int 0]) jF_320_14 rfl rfl) ?_
            refine Eq.trans (jr_s (pc2 := 16) (lv2 := [(2, .int 0), (0, .ref 117), (1, .int 2)]) (st2 := []) jF_320_15 rfl rfl) ?_
            refine Eq.trans (jr_s (pc2 := 17) (lv2 := [(2, .int 0), (0, .ref 117), (1, .int 2)]) (st2 := [.ref 117]) jF_320_16 rfl rfl) ?_
            refine Eq.trans (jr_gf (v := .long 0) jF_320_17 (by decide +kernel)) ?_
            refine Eq.trans (jr_s (pc2 := 21) (lv2 := [(3, .long 0), (2, .int 0), (0, .ref 117), (1, .int 2)]) (st2 := []) jF_320_20 rfl rfl) ?_
            refine Eq.trans (jr_s (pc2 := 22) (lv2 := [(3, .long 0), (2, .int 0), (0, .ref 117), (1, .int 2)]) (st2 := [.long 0]) jF_320_21 rfl rfl) ?_
            refine Eq.trans (jr_s (pc2 := 24) (lv2 := [(5, .long 0), (3, .long 0), (2, .int 0), (0, .ref 117), (1, .int 2)]) (st2 := []) jF_320_22 rfl rfl) ?_
            refine Eq.trans (jr_s (pc2 := 25) (lv2 := [(5, .long 0), (3, .long 0), (2, .int 0), (0, .ref 117), (1, .int 2)]) (st2 := [.int 0]) jF_320_24 rfl rfl) ?_
            refine Eq.trans (jr_s (pc2 := 27) (lv2 := [(7, .int 0), (5, .long 0), (3, .long 0), (2, .int 0), (0, .ref 117), (1, .int 2)]) (st2 := []) jF_320_25 rfl rfl) ?_
            refine Eq.trans (jr_s (pc2 := 29) (lv2 := [(7, .int 0), (5, .long 0), (3, .long 0), (2, .int 0), (0, .ref 117), (1, .int 2)]) (st2 := [.int 0]) jF_320_27 rfl rfl) ?_
            refine Eq.trans (jr_s (pc2 := 30) (lv2 := [(7, .int 0), (5, .long 0), (3, .long 0), (2, .int 0), (0, .ref 117), (1, .int 2)]) (st2 := [.ref 117, .int 0]) jF_320_29 rfl rfl) ?_
            refine Eq.trans (jr_gf (v := .int 0) jF_320_30 (by decide +kernel)) ?_
            refine Eq.trans (jr_ic1 jF_320_33 (by decide +kernel)) ?_
            refine Eq.trans (jr_s (pc2 := 80) (lv2 := [(7, .int 0), (5, .long 0), (3, .long 0), (2, .int 0), (0, .ref 117), (1, .int 2)]) (st2 := [.int 2]) jF_320_79 rfl rfl) ?_
            refine Eq.trans (jr_if1 jF_320_80 (by decide +kernel)) ?_
            refine Eq.trans (jr_s (pc2 := 88) (lv2 := [(7, .int 0), (5, .long 0), (3, .long 0), (2, .int 0), (0, .ref 117), (1, .int 2)]) (st2 := [.int 2]) jF_320_87 rfl rfl) ?_
            refine Eq.trans (jr_s (pc2 := 89) (lv2 := [(7, .int 0), (5, .long 0), (3, .long 0), (2, .int 0), (0, .ref 117), (1, .int 2)]) (st2 := [.int 2, .int 2]) jF_320_88 rfl rfl) ?_
            refine Eq.trans (jr_ic0 jF_320_89 (by decide +kernel)) ?_
            refine Eq.trans (jr_s (pc2 := 94) (lv2 := [(7, .int 0), (5, .long 0), (3, .long 0), (2, .int 0), (0, .ref 117), (1, .int 2)]) (st2 := [.long 0]) jF_320_92 rfl rfl) ?_
            refine Eq.trans (jr_cS (as := [.long 0]) (rest := []) (v := some (.int 0)) (hp2 := (j_hp (JR 25 132 0 (lv_args 0 [.ref 93, .ref 20]) [] (j_stf (j_hp (JR 25 128 0 (lv_args 0 [.ref 93]) [] (j_hp (JR 305 127 0 (lv_args 0 [.ref 93, .ref 20]) [] (j_stf jh2 93 14 (.int 1)) 0 0 497 19935)) 0 0 497 19935)) 93 10 (.int 0)) 0 0 497 19935))) (fr2 := 499) (lo2 := 19976) jF_320_94 rfl (show j_cnd 500 20000 499 19976 5 _ _ = true from rfl) ?_) ?_
            · refine Eq.trans (jr_s (pc2 := 1) (lv2 := [(0, .long 0)]) (st2 := [.int 0]) jF_273_0 rfl rfl) ?_
              refine Eq.trans (jr_s (pc2 := 2) (lv2 := [(2, .int 0), (0, .long 0)]) (st2 := []) jF_273_1 rfl rfl) ?_
              refine Eq.trans (jr_s (pc2 := 3) (lv2 := [(2, .int 0), (0, .long 0)]) (st2 := [.long 0]) jF_273_2 rfl rfl) ?_
              refine Eq.trans (jr_s (pc2 := 4) (lv2 := [(3, .long 0), (2, .int 0), (0, .long 0)]) (st2 := []) jF_273_3 rfl rfl) ?_
              refine Eq.trans (jr_s (pc2 := 5) (lv2 := [(3, .long 0), (2, .int 0), (0, .long 0)]) (st2 := [.long 0]) jF_273_4 rfl rfl) ?_
              refine Eq.trans (jr_s (pc2 := 6) (lv2 := [(3, .long 0), (2, .int 0), (0, .long 0)]) (st2 := [.long 0, .long 0]) jF_273_5 rfl rfl) ?_
              refine Eq.trans (jr_s (pc2 := 7) (lv2 := [(3, .long 0), (2, .int 0), (0, .long 0)]) (st2 := [.int 0]) jF_273_6 rfl rfl) ?_
              refine Eq.trans (jr_if1 jF_273_7 (by decide +kernel)) ?_
              refine Eq.trans (jr_s (pc2 := 23) (lv2 := [(3, .long 0), (2, .int 0), (0, .long 0)]) (st2 := [.int 0]) jF_273_22 rfl rfl) ?_
              exact jr_ri jF_273_23 rfl
            refine Eq.trans (jr_s (pc2 := 112) (lv2 := [(7, .int 0), (5, .long 0), (3, .long 0), (2, .int 0), (0, .ref 117), (1, .int 2)]) (st2 := [.int 0]) jF_320_97 rfl rfl) ?_
            exact jr_ri jF_320_112 rfl
        · refine ⟨60000, 60000, (-1), (j_hp (JR 25 132 0 (lv_args 0 [.ref 93, .ref 20]) [] (j_stf (j_hp (JR 25 128 0 (lv_args 0 [.ref 93]) [] (j_hp (JR 305 127 0 (lv_args 0 [.ref 93, .ref 20]) [] (j_stf jh2 93 14 (.int 1)) 0 0 497 19935)) 0 0 497 19935)) 93 10 (.int 0)) 0 0 497 19935)), (j_hp (JR 25 132 0 (lv_args 0 [.ref 93, .ref 20]) [] (j_stf (j_hp (JR 25 128 0 (lv_args 0 [.ref 93]) [] (j_hp (JR 305 127 0 (lv_args 0 [.ref 93, .ref 20]) [] (j_stf jh2 93 14 (.int 1)) 0 0 497 19935)) 0 0 497 19935)) 93 10 (.int 0)) 0 0 497 19935)), ?_, ?_, by decide +kernel⟩
          · refine Eq.trans (jr_s (pc2 := 1) (lv2 := [(0, .ref 9), (1, .int a1)]) (st2 := [.ref 9]) jF_164_0 rfl rfl) ?_
            refine Eq.trans (jr_gf (v := .ref 93) jF_164_1 (by decide +kernel)) ?_
            refine Eq.trans (jr_s (pc2 := 5) (lv2 := [(0, .ref 9), (1, .int a1)]) (st2 := [.ref 9, .ref 93]) jF_164_4 rfl rfl) ?_
            refine Eq.trans (jr_gf (v := .ref 20) jF_164_5 (by decide +kernel)) ?_
            refine Eq.trans (jr_s (pc2 := 9) (lv2 := [(0, .ref 9), (1, .int a1)]) (st2 := [.int a1, .ref 20, .ref 93]) jF_164_8 rfl rfl) ?_
            refine Eq.trans (jr_cV (a := 93) (as := [.ref 20, .int a1]) (rest := []) (v := some (.int (-1))) (hp2 := (j_hp (JR 25 132 0 (lv_args 0 [.ref 93, .ref 20]) [] (j_stf (j_hp (JR 25 128 0 (lv_args 0 [.ref 93]) [] (j_hp (JR 305 127 0 (lv_args 0 [.ref 93, .ref 20]) [] (j_stf jh2 93 14 (.int 1)) 0 0 497 19935)) 0 0 497 19935)) 93 10 (.int 0)) 0 0 497 19935))) (fr2 := 499) (lo2 := 19978) jF_164_9 (by decide +kernel) rfl (show j_cnd 500 20000 499 19978 3 _ _ = true from rfl) ?_) ?_
            · refine Eq.trans (jr_s (pc2 := 1) (lv2 := [(0, .ref 93), (1, .ref 20), (2, .int a1)]) (st2 := [.ref 93]) jF_165_0 rfl rfl) ?_
              refine Eq.trans (jr_s (pc2 := 2) (lv2 := [(0, .ref 93), (1, .ref 20), (2, .int a1)]) (st2 := [.ref 20, .ref 93]) jF_165_1 rfl rfl) ?_
              refine Eq.trans (jr_cV (a := 93) (as := [.ref 20]) (rest := []) (v := none) (hp2 := (j_hp (JR 25 132 0 (lv_args 0 [.ref 93, .ref 20]) [] (j_stf (j_hp (JR 25 128 0 (lv_args 0 [.ref 93]) [] (j_hp (JR 305 127 0 (lv_args 0 [.ref 93, .ref 20]) [] (j_stf jh2 93 14 (.int 1)) 0 0 497 19935)) 0 0 497 19935)) 93 10 (.int 0)) 0 0 497 19935))) (fr2 := 498) (lo2 := 19957) jF_165_2 (by decide +kernel) rfl (show j_cnd 499 19978 498 19957 2 _ _ = true from rfl) ?_) ?_
              · exact jr_upl (pl_fitting_1 0) (by omega)
              refine Eq.trans (jr_s (pc2 := 6) (lv2 := [(0, .ref 93), (1, .ref 20), (2, .int a1)]) (st2 := [.int a1]) jF_165_5 rfl rfl) ?_
              refine Eq.trans (jr_ts jF_165_6 (Or.inr (by omega)) (tgt := 64) rfl) ?_
              refine Eq.trans (jr_s (pc2 := 65) (lv2 := [(0, .ref 93), (1, .ref 20), (2, .int a1)]) (st2 := [.int (-1)]) jF_165_64 rfl rfl) ?_
              exact jr_ri jF_165_65 rfl
            exact jr_ri jF_164_12 rfl
          · refine Eq.trans (jr_s (pc2 := 1) (lv2 := [(0, .ref 117), (1, .int a1)]) (st2 := [.int a1]) jF_320_0 rfl rfl) ?_
            refine Eq.trans (jr_s (pc2 := 2) (lv2 := [(0, .ref 117), (1, .int a1)]) (st2 := [.long (Int32.toInt64 a1)]) jF_320_1 rfl rfl) ?_
            refine Eq.trans (jr_s (pc2 := 3) (lv2 := [(0, .ref 117), (1, .int a1)]) (st2 := [.long 0, .long (Int32.toInt64 a1)]) jF_320_2 rfl rfl) ?_
            refine Eq.trans (jr_s (pc2 := 6) (lv2 := [(0, .ref 117), (1, .int a1)]) (st2 := [.long 2, .long 0, .long (Int32.toInt64 a1)]) jF_320_3 rfl rfl) ?_
            refine Eq.trans (jr_cS (as := [.long (Int32.toInt64 a1), .long 0, .long 2]) (rest := []) (v := some (.int 0)) (hp2 := (j_hp (JR 25 132 0 (lv_args 0 [.ref 93, .ref 20]) [] (j_stf (j_hp (JR 25 128 0 (lv_args 0 [.ref 93]) [] (j_hp (JR 305 127 0 (lv_args 0 [.ref 93, .ref 20]) [] (j_stf jh2 93 14 (.int 1)) 0 0 497 19935)) 0 0 497 19935)) 93 10 (.int 0)) 0 0 497 19935))) (fr2 := 499) (lo2 := 19975) jF_320_6 rfl (show j_cnd 500 20000 499 19975 6 _ _ = true from rfl) ?_) ?_
            · refine Eq.trans (jr_s (pc2 := 1) (lv2 := [(0, .long (Int32.toInt64 a1)), (2, .long 0), (4, .long 2)]) (st2 := [.long (Int32.toInt64 a1)]) jF_232_0 rfl rfl) ?_
              refine Eq.trans (jr_s (pc2 := 2) (lv2 := [(0, .long (Int32.toInt64 a1)), (2, .long 0), (4, .long 2)]) (st2 := [.long 0, .long (Int32.toInt64 a1)]) jF_232_1 rfl rfl) ?_
              refine Eq.trans (jr_s (pc2 := 3) (lv2 := [(0, .long (Int32.toInt64 a1)), (2, .long 0), (4, .long 2)]) (st2 := [.int (lg_cmp (Int32.toInt64 a1) 0)]) jF_232_2 rfl rfl) ?_
              refine Eq.trans (jr_if0 jF_232_3 (jkl_lt_ge (show (0 : Int64).toInt ≤ ((Int32.toInt64 a1) : Int64).toInt by rw [Int32.toInt_toInt64, show (0 : Int64).toInt = 0 from by decide]; omega))) ?_
              refine Eq.trans (jr_s (pc2 := 7) (lv2 := [(0, .long (Int32.toInt64 a1)), (2, .long 0), (4, .long 2)]) (st2 := [.long (Int32.toInt64 a1)]) jF_232_6 rfl rfl) ?_
              refine Eq.trans (jr_s (pc2 := 9) (lv2 := [(0, .long (Int32.toInt64 a1)), (2, .long 0), (4, .long 2)]) (st2 := [.long 2, .long (Int32.toInt64 a1)]) jF_232_7 rfl rfl) ?_
              refine Eq.trans (jr_s (pc2 := 10) (lv2 := [(0, .long (Int32.toInt64 a1)), (2, .long 0), (4, .long 2)]) (st2 := [.int (lg_cmp (Int32.toInt64 a1) 2)]) jF_232_9 rfl rfl) ?_
              refine Eq.trans (jr_if1 jF_232_10 (jkl_gt_gt (show (2 : Int64).toInt < ((Int32.toInt64 a1) : Int64).toInt by rw [Int32.toInt_toInt64, show (2 : Int64).toInt = 2 from by decide]; omega))) ?_
              refine Eq.trans (jr_s (pc2 := 18) (lv2 := [(0, .long (Int32.toInt64 a1)), (2, .long 0), (4, .long 2)]) (st2 := [.int 0]) jF_232_17 rfl rfl) ?_
              exact jr_ri jF_232_18 rfl
            refine Eq.trans (jr_if0 jF_320_9 (by decide +kernel)) ?_
            refine Eq.trans (jr_s (pc2 := 13) (lv2 := [(0, .ref 117), (1, .int a1)]) (st2 := [.int (-1)]) jF_320_12 rfl rfl) ?_
            exact jr_ri jF_320_13 rfl
