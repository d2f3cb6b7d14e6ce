set_option maxHeartbeats 8000000 in
set_option maxRecDepth 100000 in
theorem pl_shorts_0 (n : Nat) : JR (n + 40064) 129 0 (lv_args 0 [.ref 93]) [] (j_hp (JR 25 128 0 (lv_args 0 [.ref 93]) [] (j_hp (JR 305 127 0 (lv_args 0 [.ref 93, .ref 20]) [] (j_stf jh2 93 14 (.int 1)) 0 0 497 19936)) 0 0 497 19936)) 0 0 497 19935 = some (none, (j_stf (j_hp (JR 25 128 0 (lv_args 0 [.ref 93]) [] (j_hp (JR 305 127 0 (lv_args 0 [.ref 93, .ref 20]) [] (j_stf jh2 93 14 (.int 1)) 0 0 497 19936)) 0 0 497 19936)) 93 10 (.int 0)), 0, 0) := by
  refine Eq.trans (jr_s (pc2 := 1) (lv2 := [(0, .ref 93)]) (st2 := [.ref 93]) jF_129_0 rfl rfl) ?_
  refine Eq.trans (jr_gf (v := .ref 97) jF_129_1 (by decide +kernel)) ?_
  refine Eq.trans (jr_s (pc2 := 5) (lv2 := [(0, .ref 93)]) (st2 := [.int 0, .ref 97]) jF_129_4 rfl rfl) ?_
  refine Eq.trans (jr_cS (as := [.ref 97, .int 0]) (rest := []) (v := none) (hp2 := (j_hp (JR 25 128 0 (lv_args 0 [.ref 93]) [] (j_hp (JR 305 127 0 (lv_args 0 [.ref 93, .ref 20]) [] (j_stf jh2 93 14 (.int 1)) 0 0 497 19936)) 0 0 497 19936))) (fr2 := 496) (lo2 := 19912) jF_129_5 rfl (show j_cnd 497 19935 496 19912 4 _ _ = true from rfl) ?_) ?_
  · exact j_fill0 (L := 4095) rfl (by decide +kernel) rfl (by omega)
  refine Eq.trans (jr_s (pc2 := 9) (lv2 := [(0, .ref 93)]) (st2 := [.ref 93]) jF_129_8 rfl rfl) ?_
  refine Eq.trans (jr_s (pc2 := 10) (lv2 := [(0, .ref 93)]) (st2 := [.int 0, .ref 93]) jF_129_9 rfl rfl) ?_
  refine Eq.trans (jr_pf jF_129_10 (by decide +kernel) rfl) ?_
  refine Eq.trans (jr_s (pc2 := 14) (lv2 := [(0, .ref 93)]) (st2 := [.int 0]) jF_129_13 rfl rfl) ?_
  refine Eq.trans (jr_s (pc2 := 15) (lv2 := [(1, .int 0), (0, .ref 93)]) (st2 := []) jF_129_14 rfl rfl) ?_
  refine Eq.trans (jr_s (pc2 := 16) (lv2 := [(1, .int 0), (0, .ref 93)]) (st2 := [.int 0]) jF_129_15 rfl rfl) ?_
  refine Eq.trans (jr_s (pc2 := 17) (lv2 := [(1, .int 0), (0, .ref 93)]) (st2 := [.ref 93, .int 0]) jF_129_16 rfl rfl) ?_
  refine Eq.trans (jr_gf (v := .int 0) jF_129_17 (by decide +kernel)) ?_
  refine Eq.trans (jr_ic1 jF_129_20 (by decide +kernel)) ?_
  exact jr_rr jF_129_111
set_option maxHeartbeats 8000000 in
set_option maxRecDepth 100000 in
theorem pl_shorts_1 (n : Nat) : JR (n + 40135) 126 0 (lv_args 0 [.ref 93, .ref 20]) [] jh2 0 0 498 19958 = some (none, (j_hp (JR 25 132 0 (lv_args 0 [.ref 93, .ref 20]) [] (j_stf (j_hp (JR 25 128 0 (lv_args 0 [.ref 93]) [] (j_hp (JR 305 127 0 (lv_args 0 [.ref 93, .ref 20]) [] (j_stf jh2 93 14 (.int 1)) 0 0 497 19936)) 0 0 497 19936)) 93 10 (.int 0)) 0 0 497 19936)), 0, 0) := by
  refine Eq.trans (jr_s (pc2 := 1) (lv2 := [(0, .ref 93), (1, .ref 20)]) (st2 := [.ref 93]) jF_126_0 rfl rfl) ?_
  refine Eq.trans (jr_gf (v := .int 0) jF_126_1 (by decide +kernel)) ?_
  refine Eq.trans (jr_if1 jF_126_4 (by decide +kernel)) ?_
  refine Eq.trans (jr_s (pc2 := 9) (lv2 := [(0, .ref 93), (1, .ref 20)]) (st2 := [.ref 93]) jF_126_8 rfl rfl) ?_
  refine Eq.trans (jr_s (pc2 := 10) (lv2 := [(0, .ref 93), (1, .ref 20)]) (st2 := [.int 1, .ref 93]) jF_126_9 rfl rfl) ?_
  refine Eq.trans (jr_pf jF_126_10 (by decide +kernel) rfl) ?_
  refine Eq.trans (jr_s (pc2 := 14) (lv2 := [(0, .ref 93), (1, .ref 20)]) (st2 := [.ref 93]) jF_126_13 rfl rfl) ?_
  refine Eq.trans (jr_s (pc2 := 15) (lv2 := [(0, .ref 93), (1, .ref 20)]) (st2 := [.ref 20, .ref 93]) jF_126_14 rfl rfl) ?_
  refine Eq.trans (jr_cV (a := 93) (as := [.ref 20]) (rest := []) (v := none) (hp2 := (j_hp (JR 305 127 0 (lv_args 0 [.ref 93, .ref 20]) [] (j_stf jh2 93 14 (.int 1)) 0 0 497 19936))) (fr2 := 497) (lo2 := 19936) jF_126_15 (by decide +kernel) rfl (show j_cnd 498 19958 497 19936 3 _ _ = true from rfl) ?_) ?_
  · exact jr_upl (jr_cl (v := none) (by decide +kernel)) (by omega)
  refine Eq.trans (jr_s (pc2 := 19) (lv2 := [(0, .ref 93), (1, .ref 20)]) (st2 := [.ref 93]) jF_126_18 rfl rfl) ?_
  refine Eq.trans (jr_cV (a := 93) (as := []) (rest := []) (v := none) (hp2 := (j_hp (JR 25 128 0 (lv_args 0 [.ref 93]) [] (j_hp (JR 305 127 0 (lv_args 0 [.ref 93, .ref 20]) [] (j_stf jh2 93 14 (.int 1)) 0 0 497 19936)) 0 0 497 19936))) (fr2 := 497) (lo2 := 19936) jF_126_19 (by decide +kernel) rfl (show j_cnd 498 19958 497 19936 3 _ _ = true from rfl) ?_) ?_
  · exact jr_upl (jr_cl (v := none) (by decide +kernel)) (by omega)
  refine Eq.trans (jr_s (pc2 := 23) (lv2 := [(0, .ref 93), (1, .ref 20)]) (st2 := [.ref 93]) jF_126_22 rfl rfl) ?_
  refine Eq.trans (jr_cV (a := 93) (as := []) (rest := []) (v := none) (hp2 := (j_stf (j_hp (JR 25 128 0 (lv_args 0 [.ref 93]) [] (j_hp (JR 305 127 0 (lv_args 0 [.ref 93, .ref 20]) [] (j_stf jh2 93 14 (.int 1)) 0 0 497 19936)) 0 0 497 19936)) 93 10 (.int 0))) (fr2 := 497) (lo2 := 19935) jF_126_23 (by decide +kernel) rfl (show j_cnd 498 19958 497 19935 4 _ _ = true from rfl) ?_) ?_
  · exact jr_upl (pl_shorts_0 0) (by omega)
  refine Eq.trans (jr_s (pc2 := 27) (lv2 := [(0, .ref 93), (1, .ref 20)]) (st2 := [.ref 93]) jF_126_26 rfl rfl) ?_
  refine Eq.trans (jr_s (pc2 := 28) (lv2 := [(0, .ref 93), (1, .ref 20)]) (st2 := [.ref 20, .ref 93]) jF_126_27 rfl rfl) ?_
  refine Eq.trans (jr_cV (a := 93) (as := [.ref 20]) (rest := []) (v := none) (hp2 := (j_hp (JR 25 132 0 (lv_args 0 [.ref 93, .ref 20]) [] (j_stf (j_hp (JR 25 128 0 (lv_args 0 [.ref 93]) [] (j_hp (JR 305 127 0 (lv_args 0 [.ref 93, .ref 20]) [] (j_stf jh2 93 14 (.int 1)) 0 0 497 19936)) 0 0 497 19936)) 93 10 (.int 0)) 0 0 497 19936))) (fr2 := 497) (lo2 := 19936) jF_126_28 (by decide +kernel) rfl (show j_cnd 498 19958 497 19936 3 _ _ = true from rfl) ?_) ?_
  · exact jr_upl (jr_cl (v := none) (by decide +kernel)) (by omega)
  exact jr_rr jF_126_31
set_option maxHeartbeats 8000000 in
set_option maxRecDepth 100000 in
theorem pl_shorts_2 (n : Nat) : JR (n + 40192) 141 0 (lv_args 0 [.ref 93, .ref 20]) [] jh2 0 0 499 19979 = some (some (.int 0), (j_hp (JR 25 132 0 (lv_args 0 [.ref 93, .ref 20]) [] (j_stf (j_hp (JR 25 128 0 (lv_args 0 [.ref 93]) [] (j_hp (JR 305 127 0 (lv_args 0 [.ref 93, .ref 20]) [] (j_stf jh2 93 14 (.int 1)) 0 0 497 19936)) 0 0 497 19936)) 93 10 (.int 0)) 0 0 497 19936)), 0, 0) := by
  refine Eq.trans (jr_s (pc2 := 1) (lv2 := [(0, .ref 93), (1, .ref 20)]) (st2 := [.ref 93]) jF_141_0 rfl rfl) ?_
  refine Eq.trans (jr_s (pc2 := 2) (lv2 := [(0, .ref 93), (1, .ref 20)]) (st2 := [.ref 20, .ref 93]) jF_141_1 rfl rfl) ?_
  refine Eq.trans (jr_cV (a := 93) (as := [.ref 20]) (rest := []) (v := none) (hp2 := (j_hp (JR 25 132 0 (lv_args 0 [.ref 93, .ref 20]) [] (j_stf (j_hp (JR 25 128 0 (lv_args 0 [.ref 93]) [] (j_hp (JR 305 127 0 (lv_args 0 [.ref 93, .ref 20]) [] (j_stf jh2 93 14 (.int 1)) 0 0 497 19936)) 0 0 497 19936)) 93 10 (.int 0)) 0 0 497 19936))) (fr2 := 498) (lo2 := 19958) jF_141_2 (by decide +kernel) rfl (show j_cnd 499 19979 498 19958 2 _ _ = true from rfl) ?_) ?_
  · exact jr_upl (pl_shorts_1 0) (by omega)
  refine Eq.trans (jr_s (pc2 := 6) (lv2 := [(0, .ref 93), (1, .ref 20)]) (st2 := [.ref 93]) jF_141_5 rfl rfl) ?_
  refine Eq.trans (jr_gf (v := .int 0) jF_141_6 (by decide +kernel)) ?_
  exact jr_ri jF_141_9 rfl
set_option maxHeartbeats 8000000 in
set_option maxRecDepth 100000 in
theorem pm_shorts : PM 140 297 [] := by
  refine ⟨60000, 60000, 0, (j_hp (JR 25 132 0 (lv_args 0 [.ref 93, .ref 20]) [] (j_stf (j_hp (JR 25 128 0 (lv_args 0 [.ref 93]) [] (j_hp (JR 305 127 0 (lv_args 0 [.ref 93, .ref 20]) [] (j_stf jh2 93 14 (.int 1)) 0 0 497 19936)) 0 0 497 19936)) 93 10 (.int 0)) 0 0 497 19936)), (j_hp (JR 25 132 0 (lv_args 0 [.ref 93, .ref 20]) [] (j_stf (j_hp (JR 25 128 0 (lv_args 0 [.ref 93]) [] (j_hp (JR 305 127 0 (lv_args 0 [.ref 93, .ref 20]) [] (j_stf jh2 93 14 (.int 1)) 0 0 497 19936)) 0 0 497 19936)) 93 10 (.int 0)) 0 0 497 19936)), ?_, ?_, by decide +kernel⟩
  · refine Eq.trans (jr_s (pc2 := 1) (lv2 := [(0, .ref 9)]) (st2 := [.ref 9]) jF_140_0 rfl rfl) ?_
    refine Eq.trans (jr_gf (v := .ref 93) jF_140_1 (by decide +kernel)) ?_
    refine Eq.trans (jr_s (pc2 := 5) (lv2 := [(0, .ref 9)]) (st2 := [.ref 9, .ref 93]) jF_140_4 rfl rfl) ?_
    refine Eq.trans (jr_gf (v := .ref 20) jF_140_5 (by decide +kernel)) ?_
    refine Eq.trans (jr_cV (a := 93) (as := [.ref 20]) (rest := []) (v := some (.int 0)) (hp2 := (j_hp (JR 25 132 0 (lv_args 0 [.ref 93, .ref 20]) [] (j_stf (j_hp (JR 25 128 0 (lv_args 0 [.ref 93]) [] (j_hp (JR 305 127 0 (lv_args 0 [.ref 93, .ref 20]) [] (j_stf jh2 93 14 (.int 1)) 0 0 497 19936)) 0 0 497 19936)) 93 10 (.int 0)) 0 0 497 19936))) (fr2 := 499) (lo2 := 19979) jF_140_8 (by decide +kernel) rfl (show j_cnd 500 20000 499 19979 2 _ _ = true from rfl) ?_) ?_
    · exact jr_upl (pl_shorts_2 0) (by omega)
    exact jr_ri jF_140_11 rfl
  · refine Eq.trans (jr_s (pc2 := 1) (lv2 := [(0, .ref 117)]) (st2 := [.ref 117]) jF_297_0 rfl rfl) ?_
    refine Eq.trans (jr_gf (v := .int 0) jF_297_1 (by decide +kernel)) ?_
    exact jr_ri jF_297_4 rfl
