set_option maxHeartbeats 8000000 in
set_option maxRecDepth 100000 in
theorem pl_hole_0 (n : Nat) (a2 : Int32) : JR (n + 1275) 152 0 (lv_args 0 [.long 0, .int a2]) [] jh2 0 0 499 19976 = some (some (.int (-1)), jh2, 0, 0) := by
  refine Eq.trans (jr_s (pc2 := 1) (lv2 := [(0, .long 0), (2, .int a2)]) (st2 := [.int 0]) jF_152_0 rfl rfl) ?_
  refine Eq.trans (jr_s (pc2 := 2) (lv2 := [(3, .int 0), (0, .long 0), (2, .int a2)]) (st2 := []) jF_152_1 rfl rfl) ?_
  refine Eq.trans (jr_s (pc2 := 3) (lv2 := [(3, .int 0), (0, .long 0), (2, .int a2)]) (st2 := [.int 0]) jF_152_2 rfl rfl) ?_
  refine Eq.trans (jr_s (pc2 := 5) (lv2 := [(4, .int 0), (3, .int 0), (0, .long 0), (2, .int a2)]) (st2 := []) jF_152_3 rfl rfl) ?_
  refine Eq.trans (jr_s (pc2 := 7) (lv2 := [(4, .int 0), (3, .int 0), (0, .long 0), (2, .int a2)]) (st2 := [.int 0]) jF_152_5 rfl rfl) ?_
  refine Eq.trans (jr_s (pc2 := 9) (lv2 := [(4, .int 0), (3, .int 0), (0, .long 0), (2, .int a2)]) (st2 := [.int 64, .int 0]) jF_152_7 rfl rfl) ?_
  refine Eq.trans (jr_ic0 jF_152_9 (by decide +kernel)) ?_
  refine Eq.trans (jr_s (pc2 := 13) (lv2 := [(4, .int 0), (3, .int 0), (0, .long 0), (2, .int a2)]) (st2 := [.long 0]) jF_152_12 rfl rfl) ?_
  refine Eq.trans (jr_s (pc2 := 15) (lv2 := [(4, .int 0), (3, .int 0), (0, .long 0), (2, .int a2)]) (st2 := [.int 0, .long 0]) jF_152_13 rfl rfl) ?_
  refine Eq.trans (jr_cS (as := [.long 0, .int 0]) (rest := []) (v := some (.int 0)) (hp2 := jh2) (fr2 := 498) (lo2 := 19954) jF_152_15 rfl (show j_cnd 499 19976 498 19954 3 _ _ = true from rfl) ?_) ?_
  · refine Eq.trans (jr_s (pc2 := 1) (lv2 := [(0, .long 0), (2, .int 0)]) (st2 := [.long 0]) jF_101_0 rfl rfl) ?_
    refine Eq.trans (jr_s (pc2 := 2) (lv2 := [(0, .long 0), (2, .int 0)]) (st2 := [.int 0, .long 0]) jF_101_1 rfl rfl) ?_
    refine Eq.trans (jr_s (pc2 := 3) (lv2 := [(0, .long 0), (2, .int 0)]) (st2 := [.long 0]) jF_101_2 rfl rfl) ?_
    refine Eq.trans (jr_s (pc2 := 4) (lv2 := [(0, .long 0), (2, .int 0)]) (st2 := [.long 1, .long 0]) jF_101_3 rfl rfl) ?_
    refine Eq.trans (jr_s (pc2 := 5) (lv2 := [(0, .long 0), (2, .int 0)]) (st2 := [.long 0]) jF_101_4 rfl rfl) ?_
    refine Eq.trans (jr_s (pc2 := 6) (lv2 := [(0, .long 0), (2, .int 0)]) (st2 := [.long 0, .long 0]) jF_101_5 rfl rfl) ?_
    refine Eq.trans (jr_s (pc2 := 7) (lv2 := [(0, .long 0), (2, .int 0)]) (st2 := [.int 0]) jF_101_6 rfl rfl) ?_
    refine Eq.trans (jr_if1 jF_101_7 (by decide +kernel)) ?_
    refine Eq.trans (jr_s (pc2 := 15) (lv2 := [(0, .long 0), (2, .int 0)]) (st2 := [.int 0]) jF_101_14 rfl rfl) ?_
    exact jr_ri jF_101_15 rfl
  refine Eq.trans (jr_if1 jF_152_18 (by decide +kernel)) ?_
  refine Eq.trans (jr_s (pc2 := 35) (lv2 := [(4, .int 1), (3, .int 0), (0, .long 0), (2, .int a2)]) (st2 := []) jF_152_32 rfl rfl) ?_
  refine Eq.trans (jr_s (pc2 := 5) (lv2 := [(4, .int 1), (3, .int 0), (0, .long 0), (2, .int a2)]) (st2 := []) jF_152_35 rfl rfl) ?_
  refine Eq.trans (jr_s (pc2 := 7) (lv2 := [(4, .int 1), (3, .int 0), (0, .long 0), (2, .int a2)]) (st2 := [.int 1]) jF_152_5 rfl rfl) ?_
  refine Eq.trans (jr_s (pc2 := 9) (lv2 := [(4, .int 1), (3, .int 0), (0, .long 0), (2, .int a2)]) (st2 := [.int 64, .int 1]) jF_152_7 rfl rfl) ?_
  refine Eq.trans (jr_ic0 jF_152_9 (by decide +kernel)) ?_
  refine Eq.trans (jr_s (pc2 := 13) (lv2 := [(4, .int 1), (3, .int 0), (0, .long 0), (2, .int a2)]) (st2 := [.long 0]) jF_152_12 rfl rfl) ?_
  refine Eq.trans (jr_s (pc2 := 15) (lv2 := [(4, .int 1), (3, .int 0), (0, .long 0), (2, .int a2)]) (st2 := [.int 1, .long 0]) jF_152_13 rfl rfl) ?_
  refine Eq.trans (jr_cS (as := [.long 0, .int 1]) (rest := []) (v := some (.int 0)) (hp2 := jh2) (fr2 := 498) (lo2 := 19954) jF_152_15 rfl (show j_cnd 499 19976 498 19954 3 _ _ = true from rfl) ?_) ?_
  · refine Eq.trans (jr_s (pc2 := 1) (lv2 := [(0, .long 0), (2, .int 1)]) (st2 := [.long 0]) jF_101_0 rfl rfl) ?_
    refine Eq.trans (jr_s (pc2 := 2) (lv2 := [(0, .long 0), (2, .int 1)]) (st2 := [.int 1, .long 0]) jF_101_1 rfl rfl) ?_
    refine Eq.trans (jr_s (pc2 := 3) (lv2 := [(0, .long 0), (2, .int 1)]) (st2 := [.long 0]) jF_101_2 rfl rfl) ?_
    refine Eq.trans (jr_s (pc2 := 4) (lv2 := [(0, .long 0), (2, .int 1)]) (st2 := [.long 1, .long 0]) jF_101_3 rfl rfl) ?_
    refine Eq.trans (jr_s (pc2 := 5) (lv2 := [(0, .long 0), (2, .int 1)]) (st2 := [.long 0]) jF_101_4 rfl rfl) ?_
    refine Eq.trans (jr_s (pc2 := 6) (lv2 := [(0, .long 0), (2, .int 1)]) (st2 := [.long 0, .long 0]) jF_101_5 rfl rfl) ?_
    refine Eq.trans (jr_s (pc2 := 7) (lv2 := [(0, .long 0), (2, .int 1)]) (st2 := [.int 0]) jF_101_6 rfl rfl) ?_
    refine Eq.trans (jr_if1 jF_101_7 (by decide +kernel)) ?_
    refine Eq.trans (jr_s (pc2 := 15) (lv2 := [(0, .long 0), (2, .int 1)]) (st2 := [.int 0]) jF_101_14 rfl rfl) ?_
    exact jr_ri jF_101_15 rfl
  refine Eq.trans (jr_if1 jF_152_18 (by decide +kernel)) ?_
  refine Eq.trans (jr_s (pc2 := 35) (lv2 := [(4, .int 2), (3, .int 0), (0, .long 0), (2, .int a2)]) (st2 := []) jF_152_32 rfl rfl) ?_
  refine Eq.trans (jr_s (pc2 := 5) (lv2 := [(4, .int 2), (3, .int 0), (0, .long 0), (2, .int a2)]) (st2 := []) jF_152_35 rfl rfl) ?_
  refine Eq.trans (jr_s (pc2 := 7) (lv2 := [(4, .int 2), (3, .int 0), (0, .long 0), (2, .int a2)]) (st2 := [.int 2]) jF_152_5 rfl rfl) ?_
  refine Eq.trans (jr_s (pc2 := 9) (lv2 := [(4, .int 2), (3, .int 0), (0, .long 0), (2, .int a2)]) (st2 := [.int 64, .int 2]) jF_152_7 rfl rfl) ?_
  refine Eq.trans (jr_ic0 jF_152_9 (by decide +kernel)) ?_
  refine Eq.trans (jr_s (pc2 := 13) (lv2 := [(4, .int 2), (3, .int 0), (0, .long 0), (2, .int a2)]) (st2 := [.long 0]) jF_152_12 rfl rfl) ?_
  refine Eq.trans (jr_s (pc2 := 15) (lv2 := [(4, .int 2), (3, .int 0), (0, .long 0), (2, .int a2)]) (st2 := [.int 2, .long 0]) jF_152_13 rfl rfl) ?_
  refine Eq.trans (jr_cS (as := [.long 0, .int 2]) (rest := []) (v := some (.int 0)) (hp2 := jh2) (fr2 := 498) (lo2 := 19954) jF_152_15 rfl (show j_cnd 499 19976 498 19954 3 _ _ = true from rfl) ?_) ?_
  · refine Eq.trans (jr_s (pc2 := 1) (lv2 := [(0, .long 0), (2, .int 2)]) (st2 := [.long 0]) jF_101_0 rfl rfl) ?_
    refine Eq.trans (jr_s (pc2 := 2) (lv2 := [(0, .long 0), (2, .int 2)]) (st2 := [.int 2, .long 0]) jF_101_1 rfl rfl) ?_
    refine Eq.trans (jr_s (pc2 := 3) (lv2 := [(0, .long 0), (2, .int 2)]) (st2 := [.long 0]) jF_101_2 rfl rfl) ?_
    refine Eq.trans (jr_s (pc2 := 4) (lv2 := [(0, .long 0), (2, .int 2)]) (st2 := [.long 1, .long 0]) jF_101_3 rfl rfl) ?_
    refine Eq.trans (jr_s (pc2 := 5) (lv2 := [(0, .long 0), (2, .int 2)]) (st2 := [.long 0]) jF_101_4 rfl rfl) ?_
    refine Eq.trans (jr_s (pc2 := 6) (lv2 := [(0, .long 0), (2, .int 2)]) (st2 := [.long 0, .long 0]) jF_101_5 rfl rfl) ?_
    refine Eq.trans (jr_s (pc2 := 7) (lv2 := [(0, .long 0), (2, .int 2)]) (st2 := [.int 0]) jF_101_6 rfl rfl) ?_
    refine Eq.trans (jr_if1 jF_101_7 (by decide +kernel)) ?_
    refine Eq.trans (jr_s (pc2 := 15) (lv2 := [(0, .long 0), (2, .int 2)]) (st2 := [.int 0]) jF_101_14 rfl rfl) ?_
    exact jr_ri jF_101_15 rfl
  refine Eq.trans (jr_if1 jF_152_18 (by decide +kernel)) ?_
  refine Eq.trans (jr_s (pc2 := 35) (lv2 := [(4, .int 3), (3, .int 0), (0, .long 0), (2, .int a2)]) (st2 := []) jF_152_32 rfl rfl) ?_
  refine Eq.trans (jr_s (pc2 := 5) (lv2 := [(4, .int 3), (3, .int 0), (0, .long 0), (2, .int a2)]) (st2 := []) jF_152_35 rfl rfl) ?_
  refine Eq.trans (jr_s (pc2 := 7) (lv2 := [(4, .int 3), (3, .int 0), (0, .long 0), (2, .int a2)]) (st2 := [.int 3]) jF_152_5 rfl rfl) ?_
  refine Eq.trans (jr_s (pc2 := 9) (lv2 := [(4, .int 3), (3, .int 0), (0, .long 0), (2, .int a2)]) (st2 := [.int 64, .int 3]) jF_152_7 rfl rfl) ?_
  refine Eq.trans (jr_ic0 jF_152_9 (by decide +kernel)) ?_
  refine Eq.trans (jr_s (pc2 := 13) (lv2 := [(4, .int 3), (3, .int 0), (0, .long 0), (2, .int a2)]) (st2 := [.long 0]) jF_152_12 rfl rfl) ?_
  refine Eq.trans (jr_s (pc2 := 15) (lv2 := [(4, .int 3), (3, .int 0), (0, .long 0), (2, .int a2)]) (st2 := [.int 3, .long 0]) jF_152_13 rfl rfl) ?_
  refine Eq.trans (jr_cS (as := [.long 0, .int 3]) (rest := []) (v := some (.int 0)) (hp2 := jh2) (fr2 := 498) (lo2 := 19954) jF_152_15 rfl (show j_cnd 499 19976 498 19954 3 _ _ = true from rfl) ?_) ?_
  · refine Eq.trans (jr_s (pc2 := 1) (lv2 := [(0, .long 0), (2, .int 3)]) (st2 := [.long 0]) jF_101_0 rfl rfl) ?_
    refine Eq.trans (jr_s (pc2 := 2) (lv2 := [(0, .long 0), (2, .int 3)]) (st2 := [.int 3, .long 0]) jF_101_1 rfl rfl) ?_
    refine Eq.trans (jr_s (pc2 := 3) (lv2 := [(0, .long 0), (2, .int 3)]) (st2 := [.long 0]) jF_101_2 rfl rfl) ?_
    refine Eq.trans (jr_s (pc2 := 4) (lv2 := [(0, .long 0), (2, .int 3)]) (st2 := [.long 1, .long 0]) jF_101_3 rfl rfl) ?_
    refine Eq.trans (jr_s (pc2 := 5) (lv2 := [(0, .long 0), (2, .int 3)]) (st2 := [.long 0]) jF_101_4 rfl rfl) ?_
    refine Eq.trans (jr_s (pc2 := 6) (lv2 := [(0, .long 0), (2, .int 3)]) (st2 := [.long 0, .long 0]) jF_101_5 rfl rfl) ?_
    refine Eq.trans (jr_s (pc2 := 7) (lv2 := [(0, .long 0), (2, .int 3)]) (st2 := [.int 0]) jF_101_6 rfl rfl) ?_
    refine Eq.trans (jr_if1 jF_101_7 (by decide +kernel)) ?_
    refine Eq.trans (jr_s (pc2 := 15) (lv2 := [(0, .long 0), (2, .int 3)]) (st2 := [.int 0]) jF_101_14 rfl rfl) ?_
    exact jr_ri jF_101_15 rfl
  refine Eq.trans (jr_if1 jF_152_18 (by decide +kernel)) ?_
  refine Eq.trans (jr_s (pc2 := 35) (lv2 := [(4, .int 4), (3, .int 0), (0, .long 0), (2, .int a2)]) (st2 := []) jF_152_32 rfl rfl) ?_
  refine Eq.trans (jr_s (pc2 := 5) (lv2 := [(4, .int 4), (3, .int 0), (0, .long 0), (2, .int a2)]) (st2 := []) jF_152_35 rfl rfl) ?_
  refine Eq.trans (jr_s (pc2 := 7) (lv2 := [(4, .int 4), (3, .int 0), (0, .long 0), (2, .int a2)]) (st2 := [.int 4]) jF_152_5 rfl rfl) ?_
  refine Eq.trans (jr_s (pc2 := 9) (lv2 := [(4, .int 4), (3, .int 0), (0, .long 0), (2, .int a2)]) (st2 := [.int 64, .int 4]) jF_152_7 rfl rfl) ?_
  refine Eq.trans (jr_ic0 jF_152_9 (by decide +kernel)) ?_
  refine Eq.trans (jr_s (pc2 := 13) (lv2 := [(4, .int 4), (3, .int 0), (0, .long 0), (2, .int a2)]) (st2 := [.long 0]) jF_152_12 rfl rfl) ?_
  refine Eq.trans (jr_s (pc2 := 15) (lv2 := [(4, .int 4), (3, .int 0), (0, .long 0), (2, .int a2)]) (st2 := [.int 4, .long 0]) jF_152_13 rfl rfl) ?_
  refine Eq.trans (jr_cS (as := [.long 0, .int 4]) (rest := []) (v := some (.int 0)) (hp2 := jh2) (fr2 := 498) (lo2 := 19954) jF_152_15 rfl (show j_cnd 499 19976 498 19954 3 _ _ = true from rfl) ?_) ?_
  · refine Eq.trans (jr_s (pc2 := 1) (lv2 := [(0, .long 0), (2, .int 4)]) (st2 := [.long 0]) jF_101_0 rfl rfl) ?_
    refine Eq.trans (jr_s (pc2 := 2) (lv2 := [(0, .long 0), (2, .int 4)]) (st2 := [.int 4, .long 0]) jF_101_1 rfl rfl) ?_
    refine Eq.trans (jr_s (pc2 := 3) (lv2 := [(0, .long 0), (2, .int 4)]) (st2 := [.long 0]) jF_101_2 rfl rfl) ?_
    refine Eq.trans (jr_s (pc2 := 4) (lv2 := [(0, .long 0), (2, .int 4)]) (st2 := [.long 1, .long 0]) jF_101_3 rfl rfl) ?_
    refine Eq.trans (jr_s (pc2 := 5) (lv2 := [(0, .long 0), (2, .int 4)]) (st2 := [.long 0]) jF_101_4 rfl rfl) ?_
    refine Eq.trans (jr_s (pc2 := 6) (lv2 := [(0, .long 0), (2, .int 4)]) (st2 := [.long 0, .long 0]) jF_101_5 rfl rfl) ?_
    refine Eq.trans (jr_s (pc2 := 7) (lv2 := [(0, .long 0), (2, .int 4)]) (st2 := [.int 0]) jF_101_6 rfl rfl) ?_
    refine Eq.trans (jr_if1 jF_101_7 (by decide +kernel)) ?_
    refine Eq.trans (jr_s (pc2 := 15) (lv2 := [(0, .long 0), (2, .int 4)]) (st2 := [.int 0]) jF_101_14 rfl rfl) ?_
    exact jr_ri jF_101_15 rfl
  refine Eq.trans (jr_if1 jF_152_18 (by decide +kernel)) ?_
  refine Eq.trans (jr_s (pc2 := 35) (lv2 := [(4, .int 5), (3, .int 0), (0, .long 0), (2, .int a2)]) (st2 := []) jF_152_32 rfl rfl) ?_
  refine Eq.trans (jr_s (pc2 := 5) (lv2 := [(4, .int 5), (3, .int 0), (0, .long 0), (2, .int a2)]) (st2 := []) jF_152_35 rfl rfl) ?_
  refine Eq.trans (jr_s (pc2 := 7) (lv2 := [(4, .int 5), (3, .int 0), (0, .long 0), (2, .int a2)]) (st2 := [.int 5]) jF_152_5 rfl rfl) ?_
  refine Eq.trans (jr_s (pc2 := 9) (lv2 := [(4, .int 5), (3, .int 0), (0, .long 0), (2, .int a2)]) (st2 := [.int 64, .int 5]) jF_152_7 rfl rfl) ?_
  refine Eq.trans (jr_ic0 jF_152_9 (by decide +kernel)) ?_
  refine Eq.trans (jr_s (pc2 := 13) (lv2 := [(4, .int 5), (3, .int 0), (0, .long 0), (2, .int a2)]) (st2 := [.long 0]) jF_152_12 rfl rfl) ?_
  refine Eq.trans (jr_s (pc2 := 15) (lv2 := [(4, .int 5), (3, .int 0), (0, .long 0), (2, .int a2)]) (st2 := [.int 5, .long 0]) jF_152_13 rfl rfl) ?_
  refine Eq.trans (jr_cS (as := [.long 0, .int 5]) (rest := []) (v := some (.int 0)) (hp2 := jh2) (fr2 := 498) (lo2 := 19954) jF_152_15 rfl (show j_cnd 499 19976 498 19954 3 _ _ = true from rfl) ?_) ?_
  · refine Eq.trans (jr_s (pc2 := 1) (lv2 := [(0, .long 0), (2, .int 5)]) (st2 := [.long 0]) jF_101_0 rfl rfl) ?_
    refine Eq.trans (jr_s (pc2 := 2) (lv2 := [(0, .long 0), (2, .int 5)]) (st2 := [.int 5, .long 0]) jF_101_1 rfl rfl) ?_
    refine Eq.trans (jr_s (pc2 := 3) (lv2 := [(0, .long 0), (2, .int 5)]) (st2 := [.long 0]) jF_101_2 rfl rfl) ?_
    refine Eq.trans (jr_s (pc2 := 4) (lv2 := [(0, .long 0), (2, .int 5)]) (st2 := [.long 1, .long 0]) jF_101_3 rfl rfl) ?_
    refine Eq.trans (jr_s (pc2 := 5) (lv2 := [(0, .long 0), (2, .int 5)]) (st2 := [.long 0]) jF_101_4 rfl rfl) ?_
    refine Eq.trans (jr_s (pc2 := 6) (lv2 := [(0, .long 0), (2, .int 5)]) (st2 := [.long 0, .long 0]) jF_101_5 rfl rfl) ?_
    refine Eq.trans (jr_s (pc2 := 7) (lv2 := [(0, .long 0), (2, .int 5)]) (st2 := [.int 0]) jF_101_6 rfl rfl) ?_
    refine Eq.trans (jr_if1 jF_101_7 (by decide +kernel)) ?_
    refine Eq.trans (jr_s (pc2 := 15) (lv2 := [(0, .long 0), (2, .int 5)]) (st2 := [.int 0]) jF_101_14 rfl rfl) ?_
    exact jr_ri jF_101_15 rfl
  refine Eq.trans (jr_if1 jF_152_18 (by decide +kernel)) ?_
  refine Eq.trans (jr_s (pc2 := 35) (lv2 := [(4, .int 6), (3, .int 0), (0, .long 0), (2, .int a2)]) (st2 := []) jF_152_32 rfl rfl) ?_
  refine Eq.trans (jr_s (pc2 := 5) (lv2 := [(4, .int 6), (3, .int 0), (0, .long 0), (2, .int a2)]) (st2 := []) jF_152_35 rfl rfl) ?_
  refine Eq.trans (jr_s (pc2 := 7) (lv2 := [(4, .int 6), (3, .int 0), (0, .long 0), (2, .int a2)]) (st2 := [.int 6]) jF_152_5 rfl rfl) ?_
  refine Eq.trans (jr_s (pc2 := 9) (lv2 := [(4, .int 6), (3, .int 0), (0, .long 0), (2, .int a2)]) (st2 := [.int 64, .int 6]) jF_152_7 rfl rfl) ?_
  refine Eq.trans (jr_ic0 jF_152_9 (by decide +kernel)) ?_
  refine Eq.trans (jr_s (pc2 := 13) (lv2 := [(4, .int 6), (3, .int 0), (0, .long 0), (2, .int a2)]) (st2 := [.long 0]) jF_152_12 rfl rfl) ?_
  refine Eq.trans (jr_s (pc2 := 15) (lv2 := [(4, .int 6), (3, .int 0), (0, .long 0), (2, .int a2)]) (st2 := [.int 6, .long 0]) jF_152_13 rfl rfl) ?_
  refine Eq.trans (jr_cS (as := [.long 0, .int 6]) (rest := []) (v := some (.int 0)) (hp2 := jh2) (fr2 := 498) (lo2 := 19954) jF_152_15 rfl (show j_cnd 499 19976 498 19954 3 _ _ = true from rfl) ?_) ?_
  · refine Eq.trans (jr_s (pc2 := 1) (lv2 := [(0, .long 0), (2, .int 6)]) (st2 := [.long 0]) jF_101_0 rfl rfl) ?_
    refine Eq.trans (jr_s (pc2 := 2) (lv2 := [(0, .long 0), (2, .int 6)]) (st2 := [.int 6, .long 0]) jF_101_1 rfl rfl) ?_
    refine Eq.trans (jr_s (pc2 := 3) (lv2 := [(0, .long 0), (2, .int 6)]) (st2 := [.long 0]) jF_101_2 rfl rfl) ?_
    refine Eq.trans (jr_s (pc2 := 4) (lv2 := [(0, .long 0), (2, .int 6)]) (st2 := [.long 1, .long 0]) jF_101_3 rfl rfl) ?_
    refine Eq.trans (jr_s (pc2 := 5) (lv2 := [(0, .long 0), (2, .int 6)]) (st2 := [.long 0]) jF_101_4 rfl rfl) ?_
    refine Eq.trans (jr_s (pc2 := 6) (lv2 := [(0, .long 0), (2, .int 6)]) (st2 := [.long 0, .long 0]) jF_101_5 rfl rfl) ?_
    refine Eq.trans (jr_s (pc2 := 7) (lv2 := [(0, .long 0), (2, .int 6)]) (st2 := [.int 0]) jF_101_6 rfl rfl) ?_
    refine Eq.trans (jr_if1 jF_101_7 (by decide +kernel)) ?_
    refine Eq.trans (jr_s (pc2 := 15) (lv2 := [(0, .long 0), (2, .int 6)]) (st2 := [.int 0]) jF_101_14 rfl rfl) ?_
    exact jr_ri jF_101_15 rfl
  refine Eq.trans (jr_if1 jF_152_18 (by decide +kernel)) ?_
  refine Eq.trans (jr_s (pc2 := 35) (lv2 := [(4, .int 7), (3, .int 0), (0, .long 0), (2, .int a2)]) (st2 := []) jF_152_32 rfl rfl) ?_
  refine Eq.trans (jr_s (pc2 := 5) (lv2 := [(4, .int 7), (3, .int 0), (0, .long 0), (2, .int a2)]) (st2 := []) jF_152_35 rfl rfl) ?_
  refine Eq.trans (jr_s (pc2 := 7) (lv2 := [(4, .int 7), (3, .int 0), (0, .long 0), (2, .int a2)]) (st2 := [.int 7]) jF_152_5 rfl rfl) ?_
  refine Eq.trans (jr_s (pc2 := 9) (lv2 := [(4, .int 7), (3, .int 0), (0, .long 0), (2, .int a2)]) (st2 := [.int 64, .int 7]) jF_152_7 rfl rfl) ?_
  refine Eq.trans (jr_ic0 jF_152_9 (by decide +kernel)) ?_
  refine Eq.trans (jr_s (pc2 := 13) (lv2 := [(4, .int 7), (3, .int 0), (0, .long 0), (2, .int a2)]) (st2 := [.long 0]) jF_152_12 rfl rfl) ?_
  refine Eq.trans (jr_s (pc2 := 15) (lv2 := [(4, .int 7), (3, .int 0), (0, .long 0), (2, .int a2)]) (st2 := [.int 7, .long 0]) jF_152_13 rfl rfl) ?_
  refine Eq.trans (jr_cS (as := [.long 0, .int 7]) (rest := []) (v := some (.int 0)) (hp2 := jh2) (fr2 := 498) (lo2 := 19954) jF_152_15 rfl (show j_cnd 499 19976 498 19954 3 _ _ = true from rfl) ?_) ?_
  · refine Eq.trans (jr_s (pc2 := 1) (lv2 := [(0, .long 0), (2, .int 7)]) (st2 := [.long 0]) jF_101_0 rfl rfl) ?_
    refine Eq.trans (jr_s (pc2 := 2) (lv2 := [(0, .long 0), (2, .int 7)]) (st2 := [.int 7, .long 0]) jF_101_1 rfl rfl) ?_
    refine Eq.trans (jr_s (pc2 := 3) (lv2 := [(0, .long 0), (2, .int 7)]) (st2 := [.long 0]) jF_101_2 rfl rfl) ?_
    refine Eq.trans (jr_s (pc2 := 4) (lv2 := [(0, .long 0), (2, .int 7)]) (st2 := [.long 1, .long 0]) jF_101_3 rfl rfl) ?_
    refine Eq.trans (jr_s (pc2 := 5) (lv2 := [(0, .long 0), (2, .int 7)]) (st2 := [.long 0]) jF_101_4 rfl rfl) ?_
    refine Eq.trans (jr_s (pc2 := 6) (lv2 := [(0, .long 0), (2, .int 7)]) (st2 := [.long 0, .long 0]) jF_101_5 rfl rfl) ?_
    refine Eq.trans (jr_s (pc2 := 7) (lv2 := [(0, .long 0), (2, .int 7)]) (st2 := [.int 0]) jF_101_6 rfl rfl) ?_
    refine Eq.trans (jr_if1 jF_101_7 (by decide +kernel)) ?_
    refine Eq.trans (jr_s (pc2 := 15) (lv2 := [(0, .long 0), (2, .int 7)]) (st2 := [.int 0]) jF_101_14 rfl rfl) ?_
    exact jr_ri jF_101_15 rfl
  refine Eq.trans (jr_if1 jF_152_18 (by decide +kernel)) ?_
  refine Eq.trans (jr_s (pc2 := 35) (lv2 := [(4, .int 8), (3, .int 0), (0, .long 0), (2, .int a2)]) (st2 := []) jF_152_32 rfl rfl) ?_
  refine Eq.trans (jr_s (pc2 := 5) (lv2 := [(4, .int 8), (3, .int 0), (0, .long 0), (2, .int a2)]) (st2 := []) jF_152_35 rfl rfl) ?_
  refine Eq.trans (jr_s (pc2 := 7) (lv2 := [(4, .int 8), (3, .int 0), (0, .long 0), (2, .int a2)]) (st2 := [.int 8]) jF_152_5 rfl rfl) ?_
  refine Eq.trans (jr_s (pc2 := 9) (lv2 := [(4, .int 8), (3, .int 0), (0, .long 0), (2, .int a2)]) (st2 := [.int 64, .int 8]) jF_152_7 rfl rfl) ?_
  refine Eq.trans (jr_ic0 jF_152_9 (by decide +kernel)) ?_
  refine Eq.trans (jr_s (pc2 := 13) (lv2 := [(4, .int 8), (3, .int 0), (0, .long 0), (2, .int a2)]) (st2 := [.long 0]) jF_152_12 rfl rfl) ?_
  refine Eq.trans (jr_s (pc2 := 15) (lv2 := [(4, .int 8), (3, .int 0), (0, .long 0), (2, .int a2)]) (st2 := [.int 8, .long 0]) jF_152_13 rfl rfl) ?_
  refine Eq.trans (jr_cS (as := [.long 0, .int 8]) (rest := []) (v := some (.int 0)) (hp2 := jh2) (fr2 := 498) (lo2 := 19954) jF_152_15 rfl (show j_cnd 499 19976 498 19954 3 _ _ = true from rfl) ?_) ?_
  · refine Eq.trans (jr_s (pc2 := 1) (lv2 := [(0, .long 0), (2, .int 8)]) (st2 := [.long 0]) jF_101_0 rfl rfl) ?_
    refine Eq.trans (jr_s (pc2 := 2) (lv2 := [(0, .long 0), (2, .int 8)]) (st2 := [.int 8, .long 0]) jF_101_1 rfl rfl) ?_
    refine Eq.trans (jr_s (pc2 := 3) (lv2 := [(0, .long 0), (2, .int 8)]) (st2 := [.long 0]) jF_101_2 rfl rfl) ?_
    refine Eq.trans (jr_s (pc2 := 4) (lv2 := [(0, .long 0), (2, .int 8)]) (st2 := [.long 1, .long 0]) jF_101_3 rfl rfl) ?_
    refine Eq.trans (jr_s (pc2 := 5) (lv2 := [(0, .long 0), (2, .int 8)]) (st2 := [.long 0]) jF_101_4 rfl rfl) ?_
    refine Eq.trans (jr_s (pc2 := 6) (lv2 := [(0, .long 0), (2, .int 8)]) (st2 := [.long 0, .long 0]) jF_101_5 rfl rfl) ?_
    refine Eq.trans (jr_s (pc2 := 7) (lv2 := [(0, .long 0), (2, .int 8)]) (st2 := [.int 0]) jF_101_6 rfl rfl) ?_
    refine Eq.trans (jr_if1 jF_101_7 (by decide +kernel)) ?_
    refine Eq.trans (jr_s (pc2 := 15) (lv2 := [(0, .long 0), (2, .int 8)]) (st2 := [.int 0]) jF_101_14 rfl rfl) ?_
    exact jr_ri jF_101_15 rfl
  refine Eq.trans (jr_if1 jF_152_18 (by decide +kernel)) ?_
  refine Eq.trans (jr_s (pc2 := 35) (lv2 := [(4, .int 9), (3, .int 0), (0, .long 0), (2, .int a2)]) (st2 := []) jF_152_32 rfl rfl) ?_
  refine Eq.trans (jr_s (pc2 := 5) (lv2 := [(4, .int 9), (3, .int 0), (0, .long 0), (2, .int a2)]) (st2 := []) jF_152_35 rfl rfl) ?_
  refine Eq.trans (jr_s (pc2 := 7) (lv2 := [(4, .int 9), (3, .int 0), (0, .long 0), (2, .int a2)]) (st2 := [.int 9]) jF_152_5 rfl rfl) ?_
  refine Eq.trans (jr_s (pc2 := 9) (lv2 := [(4, .int 9), (3, .int 0), (0, .long 0), (2, .int a2)]) (st2 := [.int 64, .int 9]) jF_152_7 rfl rfl) ?_
  refine Eq.trans (jr_ic0 jF_152_9 (by decide +kernel)) ?_
  refine Eq.trans (jr_s (pc2 := 13) (lv2 := [(4, .int 9), (3, .int 0), (0, .long 0), (2, .int a2)]) (st2 := [.long 0]) jF_152_12 rfl rfl) ?_
  refine Eq.trans (jr_s (pc2 := 15) (lv2 := [(4, .int 9), (3, .int 0), (0, .long 0), (2, .int a2)]) (st2 := [.int 9, .long 0]) jF_152_13 rfl rfl) ?_
  refine Eq.trans (jr_cS (as := [.long 0, .int 9]) (rest := []) (v := some (.int 0)) (hp2 := jh2) (fr2 := 498) (lo2 := 19954) jF_152_15 rfl (show j_cnd 499 19976 498 19954 3 _ _ = true from rfl) ?_) ?_
  · refine Eq.trans (jr_s (pc2 := 1) (lv2 := [(0, .long 0), (2, .int 9)]) (st2 := [.long 0]) jF_101_0 rfl rfl) ?_
    refine Eq.trans (jr_s (pc2 := 2) (lv2 := [(0, .long 0), (2, .int 9)]) (st2 := [.int 9, .long 0]) jF_101_1 rfl rfl) ?_
    refine Eq.trans (jr_s (pc2 := 3) (lv2 := [(0, .long 0), (2, .int 9)]) (st2 := [.long 0]) jF_101_2 rfl rfl) ?_
    refine Eq.trans (jr_s (pc2 := 4) (lv2 := [(0, .long 0), (2, .int 9)]) (st2 := [.long 1, .long 0]) jF_101_3 rfl rfl) ?_
    refine Eq.trans (jr_s (pc2 := 5) (lv2 := [(0, .long 0), (2, .int 9)]) (st2 := [.long 0]) jF_101_4 rfl rfl) ?_
    refine Eq.trans (jr_s (pc2 := 6) (lv2 := [(0, .long 0), (2, .int 9)]) (st2 := [.long 0, .long 0]) jF_101_5 rfl rfl) ?_
    refine Eq.trans (jr_s (pc2 := 7) (lv2 := [(0, .long 0), (2, .int 9)]) (st2 := [.int 0]) jF_101_6 rfl rfl) ?_
    refine Eq.trans (jr_if1 jF_101_7 (by decide +kernel)) ?_
    refine Eq.trans (jr_s (pc2 := 15) (lv2 := [(0, .long 0), (2, .int 9)]) (st2 := [.int 0]) jF_101_14 rfl rfl) ?_
    exact jr_ri jF_101_15 rfl
  refine Eq.trans (jr_if1 jF_152_18 (by decide +kernel)) ?_
  refine Eq.trans (jr_s (pc2 := 35) (lv2 := [(4, .int 10), (3, .int 0), (0, .long 0), (2, .int a2)]) (st2 := []) jF_152_32 rfl rfl) ?_
  refine Eq.trans (jr_s (pc2 := 5) (lv2 := [(4, .int 10), (3, .int 0), (0, .long 0), (2, .int a2)]) (st2 := []) jF_152_35 rfl rfl) ?_
  refine Eq.trans (jr_s (pc2 := 7) (lv2 := [(4, .int 10), (3, .int 0), (0, .long 0), (2, .int a2)]) (st2 := [.int 10]) jF_152_5 rfl rfl) ?_
  refine Eq.trans (jr_s (pc2 := 9) (lv2 := [(4, .int 10), (3, .int 0), (0, .long 0), (2, .int a2)]) (st2 := [.int 64, .int 10]) jF_152_7 rfl rfl) ?_
  refine Eq.trans (jr_ic0 jF_152_9 (by decide +kernel)) ?_
  refine Eq.trans (jr_s (pc2 := 13) (lv2 := [(4, .int 10), (3, .int 0), (0, .long 0), (2, .int a2)]) (st2 := [.long 0]) jF_152_12 rfl rfl) ?_
  refine Eq.trans (jr_s (pc2 := 15) (lv2 := [(4, .int 10), (3, .int 0), (0, .long 0), (2, .int a2)]) (st2 := [.int 10, .long 0]) jF_152_13 rfl rfl) ?_
  refine Eq.trans (jr_cS (as := [.long 0, .int 10]) (rest := []) (v := some (.int 0)) (hp2 := jh2) (fr2 := 498) (lo2 := 19954) jF_152_15 rfl (show j_cnd 499 19976 498 19954 3 _ _ = true from rfl) ?_) ?_
  · refine Eq.trans (jr_s (pc2 := 1) (lv2 := [(0, .long 0), (2, .int 10)]) (st2 := [.long 0]) jF_101_0 rfl rfl) ?_
    refine Eq.trans (jr_s (pc2 := 2) (lv2 := [(0, .long 0), (2, .int 10)]) (st2 := [.int 10, .long 0]) jF_101_1 rfl rfl) ?_
    refine Eq.trans (jr_s (pc2 := 3) (lv2 := [(0, .long 0), (2, .int 10)]) (st2 := [.long 0]) jF_101_2 rfl rfl) ?_
    refine Eq.trans (jr_s (pc2 := 4) (lv2 := [(0, .long 0), (2, .int 10)]) (st2 := [.long 1, .long 0]) jF_101_3 rfl rfl) ?_
    refine Eq.trans (jr_s (pc2 := 5) (lv2 := [(0, .long 0), (2, .int 10)]) (st2 := [.long 0]) jF_101_4 rfl rfl) ?_
    refine Eq.trans (jr_s (pc2 := 6) (lv2 := [(0, .long 0), (2, .int 10)]) (st2 := [.long 0, .long 0]) jF_101_5 rfl rfl) ?_
    refine Eq.trans (jr_s (pc2 := 7) (lv2 := [(0, .long 0), (2, .int 10)]) (st2 := [.int 0]) jF_101_6 rfl rfl) ?_
    refine Eq.trans (jr_if1 jF_101_7 (by decide +kernel)) ?_
    refine Eq.trans (jr_s (pc2 := 15) (lv2 := [(0, .long 0), (2, .int 10)]) (st2 := [.int 0]) jF_101_14 rfl rfl) ?_
    exact jr_ri jF_101_15 rfl
  refine Eq.trans (jr_if1 jF_152_18 (by decide +kernel)) ?_
  refine Eq.trans (jr_s (pc2 := 35) (lv2 := [(4, .int 11), (3, .int 0), (0, .long 0), (2, .int a2)]) (st2 := []) jF_152_32 rfl rfl) ?_
  refine Eq.trans (jr_s (pc2 := 5) (lv2 := [(4, .int 11), (3, .int 0), (0, .long 0), (2, .int a2)]) (st2 := []) jF_152_35 rfl rfl) ?_
  refine Eq.trans (jr_s (pc2 := 7) (lv2 := [(4, .int 11), (3, .int 0), (0, .long 0), (2, .int a2)]) (st2 := [.int 11]) jF_152_5 rfl rfl) ?_
  refine Eq.trans (jr_s (pc2 := 9) (lv2 := [(4, .int 11), (3, .int 0), (0, .long 0), (2, .int a2)]) (st2 := [.int 64, .int 11]) jF_152_7 rfl rfl) ?_
  refine Eq.trans (jr_ic0 jF_152_9 (by decide +kernel)) ?_
  refine Eq.trans (jr_s (pc2 := 13) (lv2 := [(4, .int 11), (3, .int 0), (0, .long 0), (2, .int a2)]) (st2 := [.long 0]) jF_152_12 rfl rfl) ?_
  refine Eq.trans (jr_s (pc2 := 15) (lv2 := [(4, .int 11), (3, .int 0), (0, .long 0), (2, .int a2)]) (st2 := [.int 11, .long 0]) jF_152_13 rfl rfl) ?_
  refine Eq.trans (jr_cS (as := [.long 0, .int 11]) (rest := []) (v := some (.int 0)) (hp2 := jh2) (fr2 := 498) (lo2 := 19954) jF_152_15 rfl (show j_cnd 499 19976 498 19954 3 _ _ = true from rfl) ?_) ?_
  · refine Eq.trans (jr_s (pc2 := 1) (lv2 := [(0, .long 0), (2, .int 11)]) (st2 := [.long 0]) jF_101_0 rfl rfl) ?_
    refine Eq.trans (jr_s (pc2 := 2) (lv2 := [(0, .long 0), (2, .int 11)]) (st2 := [.int 11, .long 0]) jF_101_1 rfl rfl) ?_
    refine Eq.trans (jr_s (pc2 := 3) (lv2 := [(0, .long 0), (2, .int 11)]) (st2 := [.long 0]) jF_101_2 rfl rfl) ?_
    refine Eq.trans (jr_s (pc2 := 4) (lv2 := [(0, .long 0), (2, .int 11)]) (st2 := [.long 1, .long 0]) jF_101_3 rfl rfl) ?_
    refine Eq.trans (jr_s (pc2 := 5) (lv2 := [(0, .long 0), (2, .int 11)]) (st2 := [.long 0]) jF_101_4 rfl rfl) ?_
    refine Eq.trans (jr_s (pc2 := 6) (lv2 := [(0, .long 0), (2, .int 11)]) (st2 := [.long 0, .long 0]) jF_101_5 rfl rfl) ?_
    refine Eq.trans (jr_s (pc2 := 7) (lv2 := [(0, .long 0), (2, .int 11)]) (st2 := [.int 0]) jF_101_6 rfl rfl) ?_
    refine Eq.trans (jr_if1 jF_101_7 (by decide +kernel)) ?_
    refine Eq.trans (jr_s (pc2 := 15) (lv2 := [(0, .long 0), (2, .int 11)]) (st2 := [.int 0]) jF_101_14 rfl rfl) ?_
    exact jr_ri jF_101_15 rfl
  refine Eq.trans (jr_if1 jF_152_18 (by decide +kernel)) ?_
  refine Eq.trans (jr_s (pc2 := 35) (lv2 := [(4, .int 12), (3, .int 0), (0, .long 0), (2, .int a2)]) (st2 := []) jF_152_32 rfl rfl) ?_
  refine Eq.trans (jr_s (pc2 := 5) (lv2 := [(4, .int 12), (3, .int 0), (0, .long 0), (2, .int a2)]) (st2 := []) jF_152_35 rfl rfl) ?_
  refine Eq.trans (jr_s (pc2 := 7) (lv2 := [(4, .int 12), (3, .int 0), (0, .long 0), (2, .int a2)]) (st2 := [.int 12]) jF_152_5 rfl rfl) ?_
  refine Eq.trans (jr_s (pc2 := 9) (lv2 := [(4, .int 12), (3, .int 0), (0, .long 0), (2, .int a2)]) (st2 := [.int 64, .int 12]) jF_152_7 rfl rfl) ?_
  refine Eq.trans (jr_ic0 jF_152_9 (by decide +kernel)) ?_
  refine Eq.trans (jr_s (pc2 := 13) (lv2 := [(4, .int 12), (3, .int 0), (0, .long 0), (2, .int a2)]) (st2 := [.long 0]) jF_152_12 rfl rfl) ?_
  refine Eq.trans (jr_s (pc2 := 15) (lv2 := [(4, .int 12), (3, .int 0), (0, .long 0), (2, .int a2)]) (st2 := [.int 12, .long 0]) jF_152_13 rfl rfl) ?_
  refine Eq.trans (jr_cS (as := [.long 0, .int 12]) (rest := []) (v := some (.int 0)) (hp2 := jh2) (fr2 := 498) (lo2 := 19954) jF_152_15 rfl (show j_cnd 499 19976 498 19954 3 _ _ = true from rfl) ?_) ?_
  · refine Eq.trans (jr_s (pc2 := 1) (lv2 := [(0, .long 0), (2, .int 12)]) (st2 := [.long 0]) jF_101_0 rfl rfl) ?_
    refine Eq.trans (jr_s (pc2 := 2) (lv2 := [(0, .long 0), (2, .int 12)]) (st2 := [.int 12, .long 0]) jF_101_1 rfl rfl) ?_
    refine Eq.trans (jr_s (pc2 := 3) (lv2 := [(0, .long 0), (2, .int 12)]) (st2 := [.long 0]) jF_101_2 rfl rfl) ?_
    refine Eq.trans (jr_s (pc2 := 4) (lv2 := [(0, .long 0), (2, .int 12)]) (st2 := [.long 1, .long 0]) jF_101_3 rfl rfl) ?_
    refine Eq.trans (jr_s (pc2 := 5) (lv2 := [(0, .long 0), (2, .int 12)]) (st2 := [.long 0]) jF_101_4 rfl rfl) ?_
    refine Eq.trans (jr_s (pc2 := 6) (lv2 := [(0, .long 0), (2, .int 12)]) (st2 := [.long 0, .long 0]) jF_101_5 rfl rfl) ?_
    refine Eq.trans (jr_s (pc2 := 7) (lv2 := [(0, .long 0), (2, .int 12)]) (st2 := [.int 0]) jF_101_6 rfl rfl) ?_
    refine Eq.trans (jr_if1 jF_101_7 (by decide +kernel)) ?_
    refine Eq.trans (jr_s (pc2 := 15) (lv2 := [(0, .long 0), (2, .int 12)]) (st2 := [.int 0]) jF_101_14 rfl rfl) ?_
    exact jr_ri jF_101_15 rfl
  refine Eq.trans (jr_if1 jF_152_18 (by decide +kernel)) ?_
  refine Eq.trans (jr_s (pc2 := 35) (lv2 := [(4, .int 13), (3, .int 0), (0, .long 0), (2, .int a2)]) (st2 := []) jF_152_32 rfl rfl) ?_
  refine Eq.trans (jr_s (pc2 := 5) (lv2 := [(4, .int 13), (3, .int 0), (0, .long 0), (2, .int a2)]) (st2 := []) jF_152_35 rfl rfl) ?_
  refine Eq.trans (jr_s (pc2 := 7) (lv2 := [(4, .int 13), (3, .int 0), (0, .long 0), (2, .int a2)]) (st2 := [.int 13]) jF_152_5 rfl rfl) ?_
  refine Eq.trans (jr_s (pc2 := 9) (lv2 := [(4, .int 13), (3, .int 0), (0, .long 0), (2, .int a2)]) (st2 := [.int 64, .int 13]) jF_152_7 rfl rfl) ?_
  refine Eq.trans (jr_ic0 jF_152_9 (by decide +kernel)) ?_
  refine Eq.trans (jr_s (pc2 := 13) (lv2 := [(4, .int 13), (3, .int 0), (0, .long 0), (2, .int a2)]) (st2 := [.long 0]) jF_152_12 rfl rfl) ?_
  refine Eq.trans (jr_s (pc2 := 15) (lv2 := [(4, .int 13), (3, .int 0), (0, .long 0), (2, .int a2)]) (st2 := [.int 13, .long 0]) jF_152_13 rfl rfl) ?_
  refine Eq.trans (jr_cS (as := [.long 0, .int 13]) (rest := []) (v := some (.int 0)) (hp2 := jh2) (fr2 := 498) (lo2 := 19954) jF_152_15 rfl (show j_cnd 499 19976 498 19954 3 _ _ = true from rfl) ?_) ?_
  · refine Eq.trans (jr_s (pc2 := 1) (lv2 := [(0, .long 0), (2, .int 13)]) (st2 := [.long 0]) jF_101_0 rfl rfl) ?_
    refine Eq.trans (jr_s (pc2 := 2) (lv2 := [(0, .long 0), (2, .int 13)]) (st2 := [.int 13, .long 0]) jF_101_1 rfl rfl) ?_
    refine Eq.trans (jr_s (pc2 := 3) (lv2 := [(0, .long 0), (2, .int 13)]) (st2 := [.long 0]) jF_101_2 rfl rfl) ?_
    refine Eq.trans (jr_s (pc2 := 4) (lv2 := [(0, .long 0), (2, .int 13)]) (st2 := [.long 1, .long 0]) jF_101_3 rfl rfl) ?_
    refine Eq.trans (jr_s (pc2 := 5) (lv2 := [(0, .long 0), (2, .int 13)]) (st2 := [.long 0]) jF_101_4 rfl rfl) ?_
    refine Eq.trans (jr_s (pc2 := 6) (lv2 := [(0, .long 0), (2, .int 13)]) (st2 := [.long 0, .long 0]) jF_101_5 rfl rfl) ?_
    refine Eq.trans (jr_s (pc2 := 7) (lv2 := [(0, .long 0), (2, .int 13)]) (st2 := [.int 0]) jF_101_6 rfl rfl) ?_
    refine Eq.trans (jr_if1 jF_101_7 (by decide +kernel)) ?_
    refine Eq.trans (jr_s (pc2 := 15) (lv2 := [(0, .long 0), (2, .int 13)]) (st2 := [.int 0]) jF_101_14 rfl rfl) ?_
    exact jr_ri jF_101_15 rfl
  refine Eq.trans (jr_if1 jF_152_18 (by decide +kernel)) ?_
  refine Eq.trans (jr_s (pc2 := 35) (lv2 := [(4, .int 14), (3, .int 0), (0, .long 0), (2, .int a2)]) (st2 := []) jF_152_32 rfl rfl) ?_
  refine Eq.trans (jr_s (pc2 := 5) (lv2 := [(4, .int 14), (3, .int 0), (0, .long 0), (2, .int a2)]) (st2 := []) jF_152_35 rfl rfl) ?_
  refine Eq.trans (jr_s (pc2 := 7) (lv2 := [(4, .int 14), (3, .int 0), (0, .long 0), (2, .int a2)]) (st2 := [.int 14]) jF_152_5 rfl rfl) ?_
  refine Eq.trans (jr_s (pc2 := 9) (lv2 := [(4, .int 14), (3, .int 0), (0, .long 0), (2, .int a2)]) (st2 := [.int 64, .int 14]) jF_152_7 rfl rfl) ?_
  refine Eq.trans (jr_ic0 jF_152_9 (by decide +kernel)) ?_
  refine Eq.trans (jr_s (pc2 := 13) (lv2 := [(4, .int 14), (3, .int 0), (0, .long 0), (2, .int a2)]) (st2 := [.long 0]) jF_152_12 rfl rfl) ?_
  refine Eq.trans (jr_s (pc2 := 15) (lv2 := [(4, .int 14), (3, .int 0), (0, .long 0), (2, .int a2)]) (st2 := [.int 14, .long 0]) jF_152_13 rfl rfl) ?_
  refine Eq.trans (jr_cS (as := [.long 0, .int 14]) (rest := []) (v := some (.int 0)) (hp2 := jh2) (fr2 := 498) (lo2 := 19954) jF_152_15 rfl (show j_cnd 499 19976 498 19954 3 _ _ = true from rfl) ?_) ?_
  · refine Eq.trans (jr_s (pc2 := 1) (lv2 := [(0, .long 0), (2, .int 14)]) (st2 := [.long 0]) jF_101_0 rfl rfl) ?_
    refine Eq.trans (jr_s (pc2 := 2) (lv2 := [(0, .long 0), (2, .int 14)]) (st2 := [.int 14, .long 0]) jF_101_1 rfl rfl) ?_
    refine Eq.trans (jr_s (pc2 := 3) (lv2 := [(0, .long 0), (2, .int 14)]) (st2 := [.long 0]) jF_101_2 rfl rfl) ?_
    refine Eq.trans (jr_s (pc2 := 4) (lv2 := [(0, .long 0), (2, .int 14)]) (st2 := [.long 1, .long 0]) jF_101_3 rfl rfl) ?_
    refine Eq.trans (jr_s (pc2 := 5) (lv2 := [(0, .long 0), (2, .int 14)]) (st2 := [.long 0]) jF_101_4 rfl rfl) ?_
    refine Eq.trans (jr_s (pc2 := 6) (lv2 := [(0, .long 0), (2, .int 14)]) (st2 := [.long 0, .long 0]) jF_101_5 rfl rfl) ?_
    refine Eq.trans (jr_s (pc2 := 7) (lv2 := [(0, .long 0), (2, .int 14)]) (st2 := [.int 0]) jF_101_6 rfl rfl) ?_
    refine Eq.trans (jr_if1 jF_101_7 (by decide +kernel)) ?_
    refine Eq.trans (jr_s (pc2 := 15) (lv2 := [(0, .long 0), (2, .int 14)]) (st2 := [.int 0]) jF_101_14 rfl rfl) ?_
    exact jr_ri jF_101_15 rfl
  refine Eq.trans (jr_if1 jF_152_18 (by decide +kernel)) ?_
  refine Eq.trans (jr_s (pc2 := 35) (lv2 := [(4, .int 15), (3, .int 0), (0, .long 0), (2, .int a2)]) (st2 := []) jF_152_32 rfl rfl) ?_
  refine Eq.trans (jr_s (pc2 := 5) (lv2 := [(4, .int 15), (3, .int 0), (0, .long 0), (2, .int a2)]) (st2 := []) jF_152_35 rfl rfl) ?_
  refine Eq.trans (jr_s (pc2 := 7) (lv2 := [(4, .int 15), (3, .int 0), (0, .long 0), (2, .int a2)]) (st2 := [.int 15]) jF_152_5 rfl rfl) ?_
  refine Eq.trans (jr_s (pc2 := 9) (lv2 := [(4, .int 15), (3, .int 0), (0, .long 0), (2, .int a2)]) (st2 := [.int 64, .int 15]) jF_152_7 rfl rfl) ?_
  refine Eq.trans (jr_ic0 jF_152_9 (by decide +kernel)) ?_
  refine Eq.trans (jr_s (pc2 := 13) (lv2 := [(4, .int 15), (3, .int 0), (0, .long 0), (2, .int a2)]) (st2 := [.long 0]) jF_152_12 rfl rfl) ?_
  refine Eq.trans (jr_s (pc2 := 15) (lv2 := [(4, .int 15), (3, .int 0), (0, .long 0), (2, .int a2)]) (st2 := [.int 15, .long 0]) jF_152_13 rfl rfl) ?_
  refine Eq.trans (jr_cS (as := [.long 0, .int 15]) (rest := []) (v := some (.int 0)) (hp2 := jh2) (fr2 := 498) (lo2 := 19954) jF_152_15 rfl (show j_cnd 499 19976 498 19954 3 _ _ = true from rfl) ?_) ?_
  · refine Eq.trans (jr_s (pc2 := 1) (lv2 := [(0, .long 0), (2, .int 15)]) (st2 := [.long 0]) jF_101_0 rfl rfl) ?_
    refine Eq.trans (jr_s (pc2 := 2) (lv2 := [(0, .long 0), (2, .int 15)]) (st2 := [.int 15, .long 0]) jF_101_1 rfl rfl) ?_
    refine Eq.trans (jr_s (pc2 := 3) (lv2 := [(0, .long 0), (2, .int 15)]) (st2 := [.long 0]) jF_101_2 rfl rfl) ?_
    refine Eq.trans (jr_s (pc2 := 4) (lv2 := [(0, .long 0), (2, .int 15)]) (st2 := [.long 1, .long 0]) jF_101_3 rfl rfl) ?_
    refine Eq.trans (jr_s (pc2 := 5) (lv2 := [(0, .long 0), (2, .int 15)]) (st2 := [.long 0]) jF_101_4 rfl rfl) ?_
    refine Eq.trans (jr_s (pc2 := 6) (lv2 := [(0, .long 0), (2, .int 15)]) (st2 := [.long 0, .long 0]) jF_101_5 rfl rfl) ?_
    refine Eq.trans (jr_s (pc2 := 7) (lv2 := [(0, .long 0), (2, .int 15)]) (st2 := [.int 0]) jF_101_6 rfl rfl) ?_
    refine Eq.trans (jr_if1 jF_101_7 (by decide +kernel)) ?_
    refine Eq.trans (jr_s (pc2 := 15) (lv2 := [(0, .long 0), (2, .int 15)]) (st2 := [.int 0]) jF_101_14 rfl rfl) ?_
    exact jr_ri jF_101_15 rfl
  refine Eq.trans (jr_if1 jF_152_18 (by decide +kernel)) ?_
  refine Eq.trans (jr_s (pc2 := 35) (lv2 := [(4, .int 16), (3, .int 0), (0, .long 0), (2, .int a2)]) (st2 := []) jF_152_32 rfl rfl) ?_
  refine Eq.trans (jr_s (pc2 := 5) (lv2 := [(4, .int 16), (3, .int 0), (0, .long 0), (2, .int a2)]) (st2 := []) jF_152_35 rfl rfl) ?_
  refine Eq.trans (jr_s (pc2 := 7) (lv2 := [(4, .int 16), (3, .int 0), (0, .long 0), (2, .int a2)]) (st2 := [.int 16]) jF_152_5 rfl rfl) ?_
  refine Eq.trans (jr_s (pc2 := 9) (lv2 := [(4, .int 16), (3, .int 0), (0, .long 0), (2, .int a2)]) (st2 := [.int 64, .int 16]) jF_152_7 rfl rfl) ?_
  refine Eq.trans (jr_ic0 jF_152_9 (by decide +kernel)) ?_
  refine Eq.trans (jr_s (pc2 := 13) (lv2 := [(4, .int 16), (3, .int 0), (0, .long 0), (2, .int a2)]) (st2 := [.long 0]) jF_152_12 rfl rfl) ?_
  refine Eq.trans (jr_s (pc2 := 15) (lv2 := [(4, .int 16), (3, .int 0), (0, .long 0), (2, .int a2)]) (st2 := [.int 16, .long 0]) jF_152_13 rfl rfl) ?_
  refine Eq.trans (jr_cS (as := [.long 0, .int 16]) (rest := []) (v := some (.int 0)) (hp2 := jh2) (fr2 := 498) (lo2 := 19954) jF_152_15 rfl (show j_cnd 499 19976 498 19954 3 _ _ = true from rfl) ?_) ?_
  · refine Eq.trans (jr_s (pc2 := 1) (lv2 := [(0, .long 0), (2, .int 16)]) (st2 := [.long 0]) jF_101_0 rfl rfl) ?_
    refine Eq.trans (jr_s (pc2 := 2) (lv2 := [(0, .long 0), (2, .int 16)]) (st2 := [.int 16, .long 0]) jF_101_1 rfl rfl) ?_
    refine Eq.trans (jr_s (pc2 := 3) (lv2 := [(0, .long 0), (2, .int 16)]) (st2 := [.long 0]) jF_101_2 rfl rfl) ?_
    refine Eq.trans (jr_s (pc2 := 4) (lv2 := [(0, .long 0), (2, .int 16)]) (st2 := [.long 1, .long 0]) jF_101_3 rfl rfl) ?_
    refine Eq.trans (jr_s (pc2 := 5) (lv2 := [(0, .long 0), (2, .int 16)]) (st2 := [.long 0]) jF_101_4 rfl rfl) ?_
    refine Eq.trans (jr_s (pc2 := 6) (lv2 := [(0, .long 0), (2, .int 16)]) (st2 := [.long 0, .long 0]) jF_101_5 rfl rfl) ?_
    refine Eq.trans (jr_s (pc2 := 7) (lv2 := [(0, .long 0), (2, .int 16)]) (st2 := [.int 0]) jF_101_6 rfl rfl) ?_
    refine Eq.trans (jr_if1 jF_101_7 (by decide +kernel)) ?_
    refine Eq.trans (jr_s (pc2 := 15) (lv2 := [(0, .long 0), (2, .int 16)]) (st2 := [.int 0]) jF_101_14 rfl rfl) ?_
    exact jr_ri jF_101_15 rfl
  refine Eq.trans (jr_if1 jF_152_18 (by decide +kernel)) ?_
  refine Eq.trans (jr_s (pc2 := 35) (lv2 := [(4, .int 17), (3, .int 0), (0, .long 0), (2, .int a2)]) (st2 := []) jF_152_32 rfl rfl) ?_
  refine Eq.trans (jr_s (pc2 := 5) (lv2 := [(4, .int 17), (3, .int 0), (0, .long 0), (2, .int a2)]) (st2 := []) jF_152_35 rfl rfl) ?_
  refine Eq.trans (jr_s (pc2 := 7) (lv2 := [(4, .int 17), (3, .int 0), (0, .long 0), (2, .int a2)]) (st2 := [.int 17]) jF_152_5 rfl rfl) ?_
  refine Eq.trans (jr_s (pc2 := 9) (lv2 := [(4, .int 17), (3, .int 0), (0, .long 0), (2, .int a2)]) (st2 := [.int 64, .int 17]) jF_152_7 rfl rfl) ?_
  refine Eq.trans (jr_ic0 jF_152_9 (by decide +kernel)) ?_
  refine Eq.trans (jr_s (pc2 := 13) (lv2 := [(4, .int 17), (3, .int 0), (0, .long 0), (2, .int a2)]) (st2 := [.long 0]) jF_152_12 rfl rfl) ?_
  refine Eq.trans (jr_s (pc2 := 15) (lv2 := [(4, .int 17), (3, .int 0), (0, .long 0), (2, .int a2)]) (st2 := [.int 17, .long 0]) jF_152_13 rfl rfl) ?_
  refine Eq.trans (jr_cS (as := [.long 0, .int 17]) (rest := []) (v := some (.int 0)) (hp2 := jh2) (fr2 := 498) (lo2 := 19954) jF_152_15 rfl (show j_cnd 499 19976 498 19954 3 _ _ = true from rfl) ?_) ?_
  · refine Eq.trans (jr_s (pc2 := 1) (lv2 := [(0, .long 0), (2, .int 17)]) (st2 := [.long 0]) jF_101_0 rfl rfl) ?_
    refine Eq.trans (jr_s (pc2 := 2) (lv2 := [(0, .long 0), (2, .int 17)]) (st2 := [.int 17, .long 0]) jF_101_1 rfl rfl) ?_
    refine Eq.trans (jr_s (pc2 := 3) (lv2 := [(0, .long 0), (2, .int 17)]) (st2 := [.long 0]) jF_101_2 rfl rfl) ?_
    refine Eq.trans (jr_s (pc2 := 4) (lv2 := [(0, .long 0), (2, .int 17)]) (st2 := [.long 1, .long 0]) jF_101_3 rfl rfl) ?_
    refine Eq.trans (jr_s (pc2 := 5) (lv2 := [(0, .long 0), (2, .int 17)]) (st2 := [.long 0]) jF_101_4 rfl rfl) ?_
    refine Eq.trans (jr_s (pc2 := 6) (lv2 := [(0, .long 0), (2, .int 17)]) (st2 := [.long 0, .long 0]) jF_101_5 rfl rfl) ?_
    refine Eq.trans (jr_s (pc2 := 7) (lv2 := [(0, .long 0), (2, .int 17)]) (st2 := [.int 0]) jF_101_6 rfl rfl) ?_
    refine Eq.trans (jr_if1 jF_101_7 (by decide +kernel)) ?_
    refine Eq.trans (jr_s (pc2 := 15) (lv2 := [(0, .long 0), (2, .int 17)]) (st2 := [.int 0]) jF_101_14 rfl rfl) ?_
    exact jr_ri jF_101_15 rfl
  refine Eq.trans (jr_if1 jF_152_18 (by decide +kernel)) ?_
  refine Eq.trans (jr_s (pc2 := 35) (lv2 := [(4, .int 18), (3, .int 0), (0, .long 0), (2, .int a2)]) (st2 := []) jF_152_32 rfl rfl) ?_
  refine Eq.trans (jr_s (pc2 := 5) (lv2 := [(4, .int 18), (3, .int 0), (0, .long 0), (2, .int a2)]) (st2 := []) jF_152_35 rfl rfl) ?_
  refine Eq.trans (jr_s (pc2 := 7) (lv2 := [(4, .int 18), (3, .int 0), (0, .long 0), (2, .int a2)]) (st2 := [.int 18]) jF_152_5 rfl rfl) ?_
  refine Eq.trans (jr_s (pc2 := 9) (lv2 := [(4, .int 18), (3, .int 0), (0, .long 0), (2, .int a2)]) (st2 := [.int 64, .int 18]) jF_152_7 rfl rfl) ?_
  refine Eq.trans (jr_ic0 jF_152_9 (by decide +kernel)) ?_
  refine Eq.trans (jr_s (pc2 := 13) (lv2 := [(4, .int 18), (3, .int 0), (0, .long 0), (2, .int a2)]) (st2 := [.long 0]) jF_152_12 rfl rfl) ?_
  refine Eq.trans (jr_s (pc2 := 15) (lv2 := [(4, .int 18), (3, .int 0), (0, .long 0), (2, .int a2)]) (st2 := [.int 18, .long 0]) jF_152_13 rfl rfl) ?_
  refine Eq.trans (jr_cS (as := [.long 0, .int 18]) (rest := []) (v := some (.int 0)) (hp2 := jh2) (fr2 := 498) (lo2 := 19954) jF_152_15 rfl (show j_cnd 499 19976 498 19954 3 _ _ = true from rfl) ?_) ?_
  · refine Eq.trans (jr_s (pc2 := 1) (lv2 := [(0, .long 0), (2, .int 18)]) (st2 := [.long 0]) jF_101_0 rfl rfl) ?_
    refine Eq.trans (jr_s (pc2 := 2) (lv2 := [(0, .long 0), (2, .int 18)]) (st2 := [.int 18, .long 0]) jF_101_1 rfl rfl) ?_
    refine Eq.trans (jr_s (pc2 := 3) (lv2 := [(0, .long 0), (2, .int 18)]) (st2 := [.long 0]) jF_101_2 rfl rfl) ?_
    refine Eq.trans (jr_s (pc2 := 4) (lv2 := [(0, .long 0), (2, .int 18)]) (st2 := [.long 1, .long 0]) jF_101_3 rfl rfl) ?_
    refine Eq.trans (jr_s (pc2 := 5) (lv2 := [(0, .long 0), (2, .int 18)]) (st2 := [.long 0]) jF_101_4 rfl rfl) ?_
    refine Eq.trans (jr_s (pc2 := 6) (lv2 := [(0, .long 0), (2, .int 18)]) (st2 := [.long 0, .long 0]) jF_101_5 rfl rfl) ?_
    refine Eq.trans (jr_s (pc2 := 7) (lv2 := [(0, .long 0), (2, .int 18)]) (st2 := [.int 0]) jF_101_6 rfl rfl) ?_
    refine Eq.trans (jr_if1 jF_101_7 (by decide +kernel)) ?_
    refine Eq.trans (jr_s (pc2 := 15) (lv2 := [(0, .long 0), (2, .int 18)]) (st2 := [.int 0]) jF_101_14 rfl rfl) ?_
    exact jr_ri jF_101_15 rfl
  refine Eq.trans (jr_if1 jF_152_18 (by decide +kernel)) ?_
  refine Eq.trans (jr_s (pc2 := 35) (lv2 := [(4, .int 19), (3, .int 0), (0, .long 0), (2, .int a2)]) (st2 := []) jF_152_32 rfl rfl) ?_
  refine Eq.trans (jr_s (pc2 := 5) (lv2 := [(4, .int 19), (3, .int 0), (0, .long 0), (2, .int a2)]) (st2 := []) jF_152_35 rfl rfl) ?_
  refine Eq.trans (jr_s (pc2 := 7) (lv2 := [(4, .int 19), (3, .int 0), (0, .long 0), (2, .int a2)]) (st2 := [.int 19]) jF_152_5 rfl rfl) ?_
  refine Eq.trans (jr_s (pc2 := 9) (lv2 := [(4, .int 19), (3, .int 0), (0, .long 0), (2, .int a2)]) (st2 := [.int 64, .int 19]) jF_152_7 rfl rfl) ?_
  refine Eq.trans (jr_ic0 jF_152_9 (by decide +kernel)) ?_
  refine Eq.trans (jr_s (pc2 := 13) (lv2 := [(4, .int 19), (3, .int 0), (0, .long 0), (2, .int a2)]) (st2 := [.long 0]) jF_152_12 rfl rfl) ?_
  refine Eq.trans (jr_s (pc2 := 15) (lv2 := [(4, .int 19), (3, .int 0), (0, .long 0), (2, .int a2)]) (st2 := [.int 19, .long 0]) jF_152_13 rfl rfl) ?_
  refine Eq.trans (jr_cS (as := [.long 0, .int 19]) (rest := []) (v := some (.int 0)) (hp2 := jh2) (fr2 := 498) (lo2 := 19954) jF_152_15 rfl (show j_cnd 499 19976 498 19954 3 _ _ = true from rfl) ?_) ?_
  · refine Eq.trans (jr_s (pc2 := 1) (lv2 := [(0, .long 0), (2, .int 19)]) (st2 := [.long 0]) jF_101_0 rfl rfl) ?_
    refine Eq.trans (jr_s (pc2 := 2) (lv2 := [(0, .long 0), (2, .int 19)]) (st2 := [.int 19, .long 0]) jF_101_1 rfl rfl) ?_
    refine Eq.trans (jr_s (pc2 := 3) (lv2 := [(0, .long 0), (2, .int 19)]) (st2 := [.long 0]) jF_101_2 rfl rfl) ?_
    refine Eq.trans (jr_s (pc2 := 4) (lv2 := [(0, .long 0), (2, .int 19)]) (st2 := [.long 1, .long 0]) jF_101_3 rfl rfl) ?_
    refine Eq.trans (jr_s (pc2 := 5) (lv2 := [(0, .long 0), (2, .int 19)]) (st2 := [.long 0]) jF_101_4 rfl rfl) ?_
    refine Eq.trans (jr_s (pc2 := 6) (lv2 := [(0, .long 0), (2, .int 19)]) (st2 := [.long 0, .long 0]) jF_101_5 rfl rfl) ?_
    refine Eq.trans (jr_s (pc2 := 7) (lv2 := [(0, .long 0), (2, .int 19)]) (st2 := [.int 0]) jF_101_6 rfl rfl) ?_
    refine Eq.trans (jr_if1 jF_101_7 (by decide +kernel)) ?_
    refine Eq.trans (jr_s (pc2 := 15) (lv2 := [(0, .long 0), (2, .int 19)]) (st2 := [.int 0]) jF_101_14 rfl rfl) ?_
    exact jr_ri jF_101_15 rfl
  refine Eq.trans (jr_if1 jF_152_18 (by decide +kernel)) ?_
  refine Eq.trans (jr_s (pc2 := 35) (lv2 := [(4, .int 20), (3, .int 0), (0, .long 0), (2, .int a2)]) (st2 := []) jF_152_32 rfl rfl) ?_
  refine Eq.trans (jr_s (pc2 := 5) (lv2 := [(4, .int 20), (3, .int 0), (0, .long 0), (2, .int a2)]) (st2 := []) jF_152_35 rfl rfl) ?_
  refine Eq.trans (jr_s (pc2 := 7) (lv2 := [(4, .int 20), (3, .int 0), (0, .long 0), (2, .int a2)]) (st2 := [.int 20]) jF_152_5 rfl rfl) ?_
  refine Eq.trans (jr_s (pc2 := 9) (lv2 := [(4, .int 20), (3, .int 0), (0, .long 0), (2, .int a2)]) (st2 := [.int 64, .int 20]) jF_152_7 rfl rfl) ?_
  refine Eq.trans (jr_ic0 jF_152_9 (by decide +kernel)) ?_
  refine Eq.trans (jr_s (pc2 := 13) (lv2 := [(4, .int 20), (3, .int 0), (0, .long 0), (2, .int a2)]) (st2 := [.long 0]) jF_152_12 rfl rfl) ?_
  refine Eq.trans (jr_s (pc2 := 15) (lv2 := [(4, .int 20), (3, .int 0), (0, .long 0), (2, .int a2)]) (st2 := [.int 20, .long 0]) jF_152_13 rfl rfl) ?_
  refine Eq.trans (jr_cS (as := [.long 0, .int 20]) (rest := []) (v := some (.int 0)) (hp2 := jh2) (fr2 := 498) (lo2 := 19954) jF_152_15 rfl (show j_cnd 499 19976 498 19954 3 _ _ = true from rfl) ?_) ?_
  · refine Eq.trans (jr_s (pc2 := 1) (lv2 := [(0, .long 0), (2, .int 20)]) (st2 := [.long 0]) jF_101_0 rfl rfl) ?_
    refine Eq.trans (jr_s (pc2 := 2) (lv2 := [(0, .long 0), (2, .int 20)]) (st2 := [.int 20, .long 0]) jF_101_1 rfl rfl) ?_
    refine Eq.trans (jr_s (pc2 := 3) (lv2 := [(0, .long 0), (2, .int 20)]) (st2 := [.long 0]) jF_101_2 rfl rfl) ?_
    refine Eq.trans (jr_s (pc2 := 4) (lv2 := [(0, .long 0), (2, .int 20)]) (st2 := [.long 1, .long 0]) jF_101_3 rfl rfl) ?_
    refine Eq.trans (jr_s (pc2 := 5) (lv2 := [(0, .long 0), (2, .int 20)]) (st2 := [.long 0]) jF_101_4 rfl rfl) ?_
    refine Eq.trans (jr_s (pc2 := 6) (lv2 := [(0, .long 0), (2, .int 20)]) (st2 := [.long 0, .long 0]) jF_101_5 rfl rfl) ?_
    refine Eq.trans (jr_s (pc2 := 7) (lv2 := [(0, .long 0), (2, .int 20)]) (st2 := [.int 0]) jF_101_6 rfl rfl) ?_
    refine Eq.trans (jr_if1 jF_101_7 (by decide +kernel)) ?_
    refine Eq.trans (jr_s (pc2 := 15) (lv2 := [(0, .long 0), (2, .int 20)]) (st2 := [.int 0]) jF_101_14 rfl rfl) ?_
    exact jr_ri jF_101_15 rfl
  refine Eq.trans (jr_if1 jF_152_18 (by decide +kernel)) ?_
  refine Eq.trans (jr_s (pc2 := 35) (lv2 := [(4, .int 21), (3, .int 0), (0, .long 0), (2, .int a2)]) (st2 := []) jF_152_32 rfl rfl) ?_
  refine Eq.trans (jr_s (pc2 := 5) (lv2 := [(4, .int 21), (3, .int 0), (0, .long 0), (2, .int a2)]) (st2 := []) jF_152_35 rfl rfl) ?_
  refine Eq.trans (jr_s (pc2 := 7) (lv2 := [(4, .int 21), (3, .int 0), (0, .long 0), (2, .int a2)]) (st2 := [.int 21]) jF_152_5 rfl rfl) ?_
  refine Eq.trans (jr_s (pc2 := 9) (lv2 := [(4, .int 21), (3, .int 0), (0, .long 0), (2, .int a2)]) (st2 := [.int 64, .int 21]) jF_152_7 rfl rfl) ?_
  refine Eq.trans (jr_ic0 jF_152_9 (by decide +kernel)) ?_
  refine Eq.trans (jr_s (pc2 := 13) (lv2 := [(4, .int 21), (3, .int 0), (0, .long 0), (2, .int a2)]) (st2 := [.long 0]) jF_152_12 rfl rfl) ?_
  refine Eq.trans (jr_s (pc2 := 15) (lv2 := [(4, .int 21), (3, .int 0), (0, .long 0), (2, .int a2)]) (st2 := [.int 21, .long 0]) jF_152_13 rfl rfl) ?_
  refine Eq.trans (jr_cS (as := [.long 0, .int 21]) (rest := []) (v := some (.int 0)) (hp2 := jh2) (fr2 := 498) (lo2 := 19954) jF_152_15 rfl (show j_cnd 499 19976 498 19954 3 _ _ = true from rfl) ?_) ?_
  · refine Eq.trans (jr_s (pc2 := 1) (lv2 := [(0, .long 0), (2, .int 21)]) (st2 := [.long 0]) jF_101_0 rfl rfl) ?_
    refine Eq.trans (jr_s (pc2 := 2) (lv2 := [(0, .long 0), (2, .int 21)]) (st2 := [.int 21, .long 0]) jF_101_1 rfl rfl) ?_
    refine Eq.trans (jr_s (pc2 := 3) (lv2 := [(0, .long 0), (2, .int 21)]) (st2 := [.long 0]) jF_101_2 rfl rfl) ?_
    refine Eq.trans (jr_s (pc2 := 4) (lv2 := [(0, .long 0), (2, .int 21)]) (st2 := [.long 1, .long 0]) jF_101_3 rfl rfl) ?_
    refine Eq.trans (jr_s (pc2 := 5) (lv2 := [(0, .long 0), (2, .int 21)]) (st2 := [.long 0]) jF_101_4 rfl rfl) ?_
    refine Eq.trans (jr_s (pc2 := 6) (lv2 := [(0, .long 0), (2, .int 21)]) (st2 := [.long 0, .long 0]) jF_101_5 rfl rfl) ?_
    refine Eq.trans (jr_s (pc2 := 7) (lv2 := [(0, .long 0), (2, .int 21)]) (st2 := [.int 0]) jF_101_6 rfl rfl) ?_
    refine Eq.trans (jr_if1 jF_101_7 (by decide +kernel)) ?_
    refine Eq.trans (jr_s (pc2 := 15) (lv2 := [(0, .long 0), (2, .int 21)]) (st2 := [.int 0]) jF_101_14 rfl rfl) ?_
    exact jr_ri jF_101_15 rfl
  refine Eq.trans (jr_if1 jF_152_18 (by decide +kernel)) ?_
  refine Eq.trans (jr_s (pc2 := 35) (lv2 := [(4, .int 22), (3, .int 0), (0, .long 0), (2, .int a2)]) (st2 := []) jF_152_32 rfl rfl) ?_
  refine Eq.trans (jr_s (pc2 := 5) (lv2 := [(4, .int 22), (3, .int 0), (0, .long 0), (2, .int a2)]) (st2 := []) jF_152_35 rfl rfl) ?_
  refine Eq.trans (jr_s (pc2 := 7) (lv2 := [(4, .int 22), (3, .int 0), (0, .long 0), (2, .int a2)]) (st2 := [.int 22]) jF_152_5 rfl rfl) ?_
  refine Eq.trans (jr_s (pc2 := 9) (lv2 := [(4, .int 22), (3, .int 0), (0, .long 0), (2, .int a2)]) (st2 := [.int 64, .int 22]) jF_152_7 rfl rfl) ?_
  refine Eq.trans (jr_ic0 jF_152_9 (by decide +kernel)) ?_
  refine Eq.trans (jr_s (pc2 := 13) (lv2 := [(4, .int 22), (3, .int 0), (0, .long 0), (2, .int a2)]) (st2 := [.long 0]) jF_152_12 rfl rfl) ?_
  refine Eq.trans (jr_s (pc2 := 15) (lv2 := [(4, .int 22), (3, .int 0), (0, .long 0), (2, .int a2)]) (st2 := [.int 22, .long 0]) jF_152_13 rfl rfl) ?_
  refine Eq.trans (jr_cS (as := [.long 0, .int 22]) (rest := []) (v := some (.int 0)) (hp2 := jh2) (fr2 := 498) (lo2 := 19954) jF_152_15 rfl (show j_cnd 499 19976 498 19954 3 _ _ = true from rfl) ?_) ?_
  · refine Eq.trans (jr_s (pc2 := 1) (lv2 := [(0, .long 0), (2, .int 22)]) (st2 := [.long 0]) jF_101_0 rfl rfl) ?_
    refine Eq.trans (jr_s (pc2 := 2) (lv2 := [(0, .long 0), (2, .int 22)]) (st2 := [.int 22, .long 0]) jF_101_1 rfl rfl) ?_
    refine Eq.trans (jr_s (pc2 := 3) (lv2 := [(0, .long 0), (2, .int 22)]) (st2 := [.long 0]) jF_101_2 rfl rfl) ?_
    refine Eq.trans (jr_s (pc2 := 4) (lv2 := [(0, .long 0), (2, .int 22)]) (st2 := [.long 1, .long 0]) jF_101_3 rfl rfl) ?_
    refine Eq.trans (jr_s (pc2 := 5) (lv2 := [(0, .long 0), (2, .int 22)]) (st2 := [.long 0]) jF_101_4 rfl rfl) ?_
    refine Eq.trans (jr_s (pc2 := 6) (lv2 := [(0, .long 0), (2, .int 22)]) (st2 := [.long 0, .long 0]) jF_101_5 rfl rfl) ?_
    refine Eq.trans (jr_s (pc2 := 7) (lv2 := [(0, .long 0), (2, .int 22)]) (st2 := [.int 0]) jF_101_6 rfl rfl) ?_
    refine Eq.trans (jr_if1 jF_101_7 (by decide +kernel)) ?_
    refine Eq.trans (jr_s (pc2 := 15) (lv2 := [(0, .long 0), (2, .int 22)]) (st2 := [.int 0]) jF_101_14 rfl rfl) ?_
    exact jr_ri jF_101_15 rfl
  refine Eq.trans (jr_if1 jF_152_18 (by decide +kernel)) ?_
  refine Eq.trans (jr_s (pc2 := 35) (lv2 := [(4, .int 23), (3, .int 0), (0, .long 0), (2, .int a2)]) (st2 := []) jF_152_32 rfl rfl) ?_
  refine Eq.trans (jr_s (pc2 := 5) (lv2 := [(4, .int 23), (3, .int 0), (0, .long 0), (2, .int a2)]) (st2 := []) jF_152_35 rfl rfl) ?_
  refine Eq.trans (jr_s (pc2 := 7) (lv2 := [(4, .int 23), (3, .int 0), (0, .long 0), (2, .int a2)]) (st2 := [.int 23]) jF_152_5 rfl rfl) ?_
  refine Eq.trans (jr_s (pc2 := 9) (lv2 := [(4, .int 23), (3, .int 0), (0, .long 0), (2, .int a2)]) (st2 := [.int 64, .int 23]) jF_152_7 rfl rfl) ?_
  refine Eq.trans (jr_ic0 jF_152_9 (by decide +kernel)) ?_
  refine Eq.trans (jr_s (pc2 := 13) (lv2 := [(4, .int 23), (3, .int 0), (0, .long 0), (2, .int a2)]) (st2 := [.long 0]) jF_152_12 rfl rfl) ?_
  refine Eq.trans (jr_s (pc2 := 15) (lv2 := [(4, .int 23), (3, .int 0), (0, .long 0), (2, .int a2)]) (st2 := [.int 23, .long 0]) jF_152_13 rfl rfl) ?_
  refine Eq.trans (jr_cS (as := [.long 0, .int 23]) (rest := []) (v := some (.int 0)) (hp2 := jh2) (fr2 := 498) (lo2 := 19954) jF_152_15 rfl (show j_cnd 499 19976 498 19954 3 _ _ = true from rfl) ?_) ?_
  · refine Eq.trans (jr_s (pc2 := 1) (lv2 := [(0, .long 0), (2, .int 23)]) (st2 := [.long 0]) jF_101_0 rfl rfl) ?_
    refine Eq.trans (jr_s (pc2 := 2) (lv2 := [(0, .long 0), (2, .int 23)]) (st2 := [.int 23, .long 0]) jF_101_1 rfl rfl) ?_
    refine Eq.trans (jr_s (pc2 := 3) (lv2 := [(0, .long 0), (2, .int 23)]) (st2 := [.long 0]) jF_101_2 rfl rfl) ?_
    refine Eq.trans (jr_s (pc2 := 4) (lv2 := [(0, .long 0), (2, .int 23)]) (st2 := [.long 1, .long 0]) jF_101_3 rfl rfl) ?_
    refine Eq.trans (jr_s (pc2 := 5) (lv2 := [(0, .long 0), (2, .int 23)]) (st2 := [.long 0]) jF_101_4 rfl rfl) ?_
    refine Eq.trans (jr_s (pc2 := 6) (lv2 := [(0, .long 0), (2, .int 23)]) (st2 := [.long 0, .long 0]) jF_101_5 rfl rfl) ?_
    refine Eq.trans (jr_s (pc2 := 7) (lv2 := [(0, .long 0), (2, .int 23)]) (st2 := [.int 0]) jF_101_6 rfl rfl) ?_
    refine Eq.trans (jr_if1 jF_101_7 (by decide +kernel)) ?_
    refine Eq.trans (jr_s (pc2 := 15) (lv2 := [(0, .long 0), (2, .int 23)]) (st2 := [.int 0]) jF_101_14 rfl rfl) ?_
    exact jr_ri jF_101_15 rfl
  refine Eq.trans (jr_if1 jF_152_18 (by decide +kernel)) ?_
  refine Eq.trans (jr_s (pc2 := 35) (lv2 := [(4, .int 24), (3, .int 0), (0, .long 0), (2, .int a2)]) (st2 := []) jF_152_32 rfl rfl) ?_
  refine Eq.trans (jr_s (pc2 := 5) (lv2 := [(4, .int 24), (3, .int 0), (0, .long 0), (2, .int a2)]) (st2 := []) jF_152_35 rfl rfl) ?_
  refine Eq.trans (jr_s (pc2 := 7) (lv2 := [(4, .int 24), (3, .int 0), (0, .long 0), (2, .int a2)]) (st2 := [.int 24]) jF_152_5 rfl rfl) ?_
  refine Eq.trans (jr_s (pc2 := 9) (lv2 := [(4, .int 24), (3, .int 0), (0, .long 0), (2, .int a2)]) (st2 := [.int 64, .int 24]) jF_152_7 rfl rfl) ?_
  refine Eq.trans (jr_ic0 jF_152_9 (by decide +kernel)) ?_
  refine Eq.trans (jr_s (pc2 := 13) (lv2 := [(4, .int 24), (3, .int 0), (0, .long 0), (2, .int a2)]) (st2 := [.long 0]) jF_152_12 rfl rfl) ?_
  refine Eq.trans (jr_s (pc2 := 15) (lv2 := [(4, .int 24), (3, .int 0), (0, .long 0), (2, .int a2)]) (st2 := [.int 24, .long 0]) jF_152_13 rfl rfl) ?_
  refine Eq.trans (jr_cS (as := [.long 0, .int 24]) (rest := []) (v := some (.int 0)) (hp2 := jh2) (fr2 := 498) (lo2 := 19954) jF_152_15 rfl (show j_cnd 499 19976 498 19954 3 _ _ = true from rfl) ?_) ?_
  · refine Eq.trans (jr_s (pc2 := 1) (lv2 := [(0, .long 0), (2, .int 24)]) (st2 := [.long 0]) jF_101_0 rfl rfl) ?_
    refine Eq.trans (jr_s (pc2 := 2) (lv2 := [(0, .long 0), (2, .int 24)]) (st2 := [.int 24, .long 0]) jF_101_1 rfl rfl) ?_
    refine Eq.trans (jr_s (pc2 := 3) (lv2 := [(0, .long 0), (2, .int 24)]) (st2 := [.long 0]) jF_101_2 rfl rfl) ?_
    refine Eq.trans (jr_s (pc2 := 4) (lv2 := [(0, .long 0), (2, .int 24)]) (st2 := [.long 1, .long 0]) jF_101_3 rfl rfl) ?_
    refine Eq.trans (jr_s (pc2 := 5) (lv2 := [(0, .long 0), (2, .int 24)]) (st2 := [.long 0]) jF_101_4 rfl rfl) ?_
    refine Eq.trans (jr_s (pc2 := 6) (lv2 := [(0, .long 0), (2, .int 24)]) (st2 := [.long 0, .long 0]) jF_101_5 rfl rfl) ?_
    refine Eq.trans (jr_s (pc2 := 7) (lv2 := [(0, .long 0), (2, .int 24)]) (st2 := [.int 0]) jF_101_6 rfl rfl) ?_
    refine Eq.trans (jr_if1 jF_101_7 (by decide +kernel)) ?_
    refine Eq.trans (jr_s (pc2 := 15) (lv2 := [(0, .long 0), (2, .int 24)]) (st2 := [.int 0]) jF_101_14 rfl rfl) ?_
    exact jr_ri jF_101_15 rfl
  refine Eq.trans (jr_if1 jF_152_18 (by decide +kernel)) ?_
  refine Eq.trans (jr_s (pc2 := 35) (lv2 := [(4, .int 25), (3, .int 0), (0, .long 0), (2, .int a2)]) (st2 := []) jF_152_32 rfl rfl) ?_
  refine Eq.trans (jr_s (pc2 := 5) (lv2 := [(4, .int 25), (3, .int 0), (0, .long 0), (2, .int a2)]) (st2 := []) jF_152_35 rfl rfl) ?_
  refine Eq.trans (jr_s (pc2 := 7) (lv2 := [(4, .int 25), (3, .int 0), (0, .long 0), (2, .int a2)]) (st2 := [.int 25]) jF_152_5 rfl rfl) ?_
  refine Eq.trans (jr_s (pc2 := 9) (lv2 := [(4, .int 25), (3, .int 0), (0, .long 0), (2, .int a2)]) (st2 := [.int 64, .int 25]) jF_152_7 rfl rfl) ?_
  refine Eq.trans (jr_ic0 jF_152_9 (by decide +kernel)) ?_
  refine Eq.trans (jr_s (pc2 := 13) (lv2 := [(4, .int 25), (3, .int 0), (0, .long 0), (2, .int a2)]) (st2 := [.long 0]) jF_152_12 rfl rfl) ?_
  refine Eq.trans (jr_s (pc2 := 15) (lv2 := [(4, .int 25), (3, .int 0), (0, .long 0), (2, .int a2)]) (st2 := [.int 25, .long 0]) jF_152_13 rfl rfl) ?_
  refine Eq.trans (jr_cS (as := [.long 0, .int 25]) (rest := []) (v := some (.int 0)) (hp2 := jh2) (fr2 := 498) (lo2 := 19954) jF_152_15 rfl (show j_cnd 499 19976 498 19954 3 _ _ = true from rfl) ?_) ?_
  · refine Eq.trans (jr_s (pc2 := 1) (lv2 := [(0, .long 0), (2, .int 25)]) (st2 := [.long 0]) jF_101_0 rfl rfl) ?_
    refine Eq.trans (jr_s (pc2 := 2) (lv2 := [(0, .long 0), (2, .int 25)]) (st2 := [.int 25, .long 0]) jF_101_1 rfl rfl) ?_
    refine Eq.trans (jr_s (pc2 := 3) (lv2 := [(0, .long 0), (2, .int 25)]) (st2 := [.long 0]) jF_101_2 rfl rfl) ?_
    refine Eq.trans (jr_s (pc2 := 4) (lv2 := [(0, .long 0), (2, .int 25)]) (st2 := [.long 1, .long 0]) jF_101_3 rfl rfl) ?_
    refine Eq.trans (jr_s (pc2 := 5) (lv2 := [(0, .long 0), (2, .int 25)]) (st2 := [.long 0]) jF_101_4 rfl rfl) ?_
    refine Eq.trans (jr_s (pc2 := 6) (lv2 := [(0, .long 0), (2, .int 25)]) (st2 := [.long 0, .long 0]) jF_101_5 rfl rfl) ?_
    refine Eq.trans (jr_s (pc2 := 7) (lv2 := [(0, .long 0), (2, .int 25)]) (st2 := [.int 0]) jF_101_6 rfl rfl) ?_
    refine Eq.trans (jr_if1 jF_101_7 (by decide +kernel)) ?_
    refine Eq.trans (jr_s (pc2 := 15) (lv2 := [(0, .long 0), (2, .int 25)]) (st2 := [.int 0]) jF_101_14 rfl rfl) ?_
    exact jr_ri jF_101_15 rfl
  refine Eq.trans (jr_if1 jF_152_18 (by decide +kernel)) ?_
  refine Eq.trans (jr_s (pc2 := 35) (lv2 := [(4, .int 26), (3, .int 0), (0, .long 0), (2, .int a2)]) (st2 := []) jF_152_32 rfl rfl) ?_
  refine Eq.trans (jr_s (pc2 := 5) (lv2 := [(4, .int 26), (3, .int 0), (0, .long 0), (2, .int a2)]) (st2 := []) jF_152_35 rfl rfl) ?_
  refine Eq.trans (jr_s (pc2 := 7) (lv2 := [(4, .int 26), (3, .int 0), (0, .long 0), (2, .int a2)]) (st2 := [.int 26]) jF_152_5 rfl rfl) ?_
  refine Eq.trans (jr_s (pc2 := 9) (lv2 := [(4, .int 26), (3, .int 0), (0, .long 0), (2, .int a2)]) (st2 := [.int 64, .int 26]) jF_152_7 rfl rfl) ?_
  refine Eq.trans (jr_ic0 jF_152_9 (by decide +kernel)) ?_
  refine Eq.trans (jr_s (pc2 := 13) (lv2 := [(4, .int 26), (3, .int 0), (0, .long 0), (2, .int a2)]) (st2 := [.long 0]) jF_152_12 rfl rfl) ?_
  refine Eq.trans (jr_s (pc2 := 15) (lv2 := [(4, .int 26), (3, .int 0), (0, .long 0), (2, .int a2)]) (st2 := [.int 26, .long 0]) jF_152_13 rfl rfl) ?_
  refine Eq.trans (jr_cS (as := [.long 0, .int 26]) (rest := []) (v := some (.int 0)) (hp2 := jh2) (fr2 := 498) (lo2 := 19954) jF_152_15 rfl (show j_cnd 499 19976 498 19954 3 _ _ = true from rfl) ?_) ?_
  · refine Eq.trans (jr_s (pc2 := 1) (lv2 := [(0, .long 0), (2, .int 26)]) (st2 := [.long 0]) jF_101_0 rfl rfl) ?_
    refine Eq.trans (jr_s (pc2 := 2) (lv2 := [(0, .long 0), (2, .int 26)]) (st2 := [.int 26, .long 0]) jF_101_1 rfl rfl) ?_
    refine Eq.trans (jr_s (pc2 := 3) (lv2 := [(0, .long 0), (2, .int 26)]) (st2 := [.long 0]) jF_101_2 rfl rfl) ?_
    refine Eq.trans (jr_s (pc2 := 4) (lv2 := [(0, .long 0), (2, .int 26)]) (st2 := [.long 1, .long 0]) jF_101_3 rfl rfl) ?_
    refine Eq.trans (jr_s (pc2 := 5) (lv2 := [(0, .long 0), (2, .int 26)]) (st2 := [.long 0]) jF_101_4 rfl rfl) ?_
    refine Eq.trans (jr_s (pc2 := 6) (lv2 := [(0, .long 0), (2, .int 26)]) (st2 := [.long 0, .long 0]) jF_101_5 rfl rfl) ?_
    refine Eq.trans (jr_s (pc2 := 7) (lv2 := [(0, .long 0), (2, .int 26)]) (st2 := [.int 0]) jF_101_6 rfl rfl) ?_
    refine Eq.trans (jr_if1 jF_101_7 (by decide +kernel)) ?_
    refine Eq.trans (jr_s (pc2 := 15) (lv2 := [(0, .long 0), (2, .int 26)]) (st2 := [.int 0]) jF_101_14 rfl rfl) ?_
    exact jr_ri jF_101_15 rfl
  refine Eq.trans (jr_if1 jF_152_18 (by decide +kernel)) ?_
  refine Eq.trans (jr_s (pc2 := 35) (lv2 := [(4, .int 27), (3, .int 0), (0, .long 0), (2, .int a2)]) (st2 := []) jF_152_32 rfl rfl) ?_
  refine Eq.trans (jr_s (pc2 := 5) (lv2 := [(4, .int 27), (3, .int 0), (0, .long 0), (2, .int a2)]) (st2 := []) jF_152_35 rfl rfl) ?_
  refine Eq.trans (jr_s (pc2 := 7) (lv2 := [(4, .int 27), (3, .int 0), (0, .long 0), (2, .int a2)]) (st2 := [.int 27]) jF_152_5 rfl rfl) ?_
  refine Eq.trans (jr_s (pc2 := 9) (lv2 := [(4, .int 27), (3, .int 0), (0, .long 0), (2, .int a2)]) (st2 := [.int 64, .int 27]) jF_152_7 rfl rfl) ?_
  refine Eq.trans (jr_ic0 jF_152_9 (by decide +kernel)) ?_
  refine Eq.trans (jr_s (pc2 := 13) (lv2 := [(4, .int 27), (3, .int 0), (0, .long 0), (2, .int a2)]) (st2 := [.long 0]) jF_152_12 rfl rfl) ?_
  refine Eq.trans (jr_s (pc2 := 15) (lv2 := [(4, .int 27), (3, .int 0), (0, .long 0), (2, .int a2)]) (st2 := [.int 27, .long 0]) jF_152_13 rfl rfl) ?_
  refine Eq.trans (jr_cS (as := [.long 0, .int 27]) (rest := []) (v := some (.int 0)) (hp2 := jh2) (fr2 := 498) (lo2 := 19954) jF_152_15 rfl (show j_cnd 499 19976 498 19954 3 _ _ = true from rfl) ?_) ?_
  · refine Eq.trans (jr_s (pc2 := 1) (lv2 := [(0, .long 0), (2, .int 27)]) (st2 := [.long 0]) jF_101_0 rfl rfl) ?_
    refine Eq.trans (jr_s (pc2 := 2) (lv2 := [(0, .long 0), (2, .int 27)]) (st2 := [.int 27, .long 0]) jF_101_1 rfl rfl) ?_
    refine Eq.trans (jr_s (pc2 := 3) (lv2 := [(0, .long 0), (2, .int 27)]) (st2 := [.long 0]) jF_101_2 rfl rfl) ?_
    refine Eq.trans (jr_s (pc2 := 4) (lv2 := [(0, .long 0), (2, .int 27)]) (st2 := [.long 1, .long 0]) jF_101_3 rfl rfl) ?_
    refine Eq.trans (jr_s (pc2 := 5) (lv2 := [(0, .long 0), (2, .int 27)]) (st2 := [.long 0]) jF_101_4 rfl rfl) ?_
    refine Eq.trans (jr_s (pc2 := 6) (lv2 := [(0, .long 0), (2, .int 27)]) (st2 := [.long 0, .long 0]) jF_101_5 rfl rfl) ?_
    refine Eq.trans (jr_s (pc2 := 7) (lv2 := [(0, .long 0), (2, .int 27)]) (st2 := [.int 0]) jF_101_6 rfl rfl) ?_
    refine Eq.trans (jr_if1 jF_101_7 (by decide +kernel)) ?_
    refine Eq.trans (jr_s (pc2 := 15) (lv2 := [(0, .long 0), (2, .int 27)]) (st2 := [.int 0]) jF_101_14 rfl rfl) ?_
    exact jr_ri jF_101_15 rfl
  refine Eq.trans (jr_if1 jF_152_18 (by decide +kernel)) ?_
  refine Eq.trans (jr_s (pc2 := 35) (lv2 := [(4, .int 28), (3, .int 0), (0, .long 0), (2, .int a2)]) (st2 := []) jF_152_32 rfl rfl) ?_
  refine Eq.trans (jr_s (pc2 := 5) (lv2 := [(4, .int 28), (3, .int 0), (0, .long 0), (2, .int a2)]) (st2 := []) jF_152_35 rfl rfl) ?_
  refine Eq.trans (jr_s (pc2 := 7) (lv2 := [(4, .int 28), (3, .int 0), (0, .long 0), (2, .int a2)]) (st2 := [.int 28]) jF_152_5 rfl rfl) ?_
  refine Eq.trans (jr_s (pc2 := 9) (lv2 := [(4, .int 28), (3, .int 0), (0, .long 0), (2, .int a2)]) (st2 := [.int 64, .int 28]) jF_152_7 rfl rfl) ?_
  refine Eq.trans (jr_ic0 jF_152_9 (by decide +kernel)) ?_
  refine Eq.trans (jr_s (pc2 := 13) (lv2 := [(4, .int 28), (3, .int 0), (0, .long 0), (2, .int a2)]) (st2 := [.long 0]) jF_152_12 rfl rfl) ?_
  refine Eq.trans (jr_s (pc2 := 15) (lv2 := [(4, .int 28), (3, .int 0), (0, .long 0), (2, .int a2)]) (st2 := [.int 28, .long 0]) jF_152_13 rfl rfl) ?_
  refine Eq.trans (jr_cS (as := [.long 0, .int 28]) (rest := []) (v := some (.int 0)) (hp2 := jh2) (fr2 := 498) (lo2 := 19954) jF_152_15 rfl (show j_cnd 499 19976 498 19954 3 _ _ = true from rfl) ?_) ?_
  · refine Eq.trans (jr_s (pc2 := 1) (lv2 := [(0, .long 0), (2, .int 28)]) (st2 := [.long 0]) jF_101_0 rfl rfl) ?_
    refine Eq.trans (jr_s (pc2 := 2) (lv2 := [(0, .long 0), (2, .int 28)]) (st2 := [.int 28, .long 0]) jF_101_1 rfl rfl) ?_
    refine Eq.trans (jr_s (pc2 := 3) (lv2 := [(0, .long 0), (2, .int 28)]) (st2 := [.long 0]) jF_101_2 rfl rfl) ?_
    refine Eq.trans (jr_s (pc2 := 4) (lv2 := [(0, .long 0), (2, .int 28)]) (st2 := [.long 1, .long 0]) jF_101_3 rfl rfl) ?_
    refine Eq.trans (jr_s (pc2 := 5) (lv2 := [(0, .long 0), (2, .int 28)]) (st2 := [.long 0]) jF_101_4 rfl rfl) ?_
    refine Eq.trans (jr_s (pc2 := 6) (lv2 := [(0, .long 0), (2, .int 28)]) (st2 := [.long 0, .long 0]) jF_101_5 rfl rfl) ?_
    refine Eq.trans (jr_s (pc2 := 7) (lv2 := [(0, .long 0), (2, .int 28)]) (st2 := [.int 0]) jF_101_6 rfl rfl) ?_
    refine Eq.trans (jr_if1 jF_101_7 (by decide +kernel)) ?_
    refine Eq.trans (jr_s (pc2 := 15) (lv2 := [(0, .long 0), (2, .int 28)]) (st2 := [.int 0]) jF_101_14 rfl rfl) ?_
    exact jr_ri jF_101_15 rfl
  refine Eq.trans (jr_if1 jF_152_18 (by decide +kernel)) ?_
  refine Eq.trans (jr_s (pc2 := 35) (lv2 := [(4, .int 29), (3, .int 0), (0, .long 0), (2, .int a2)]) (st2 := []) jF_152_32 rfl rfl) ?_
  refine Eq.trans (jr_s (pc2 := 5) (lv2 := [(4, .int 29), (3, .int 0), (0, .long 0), (2, .int a2)]) (st2 := []) jF_152_35 rfl rfl) ?_
  refine Eq.trans (jr_s (pc2 := 7) (lv2 := [(4, .int 29), (3, .int 0), (0, .long 0), (2, .int a2)]) (st2 := [.int 29]) jF_152_5 rfl rfl) ?_
  refine Eq.trans (jr_s (pc2 := 9) (lv2 := [(4, .int 29), (3, .int 0), (0, .long 0), (2, .int a2)]) (st2 := [.int 64, .int 29]) jF_152_7 rfl rfl) ?_
  refine Eq.trans (jr_ic0 jF_152_9 (by decide +kernel)) ?_
  refine Eq.trans (jr_s (pc2 := 13) (lv2 := [(4, .int 29), (3, .int 0), (0, .long 0), (2, .int a2)]) (st2 := [.long 0]) jF_152_12 rfl rfl) ?_
  refine Eq.trans (jr_s (pc2 := 15) (lv2 := [(4, .int 29), (3, .int 0), (0, .long 0), (2, .int a2)]) (st2 := [.int 29, .long 0]) jF_152_13 rfl rfl) ?_
  refine Eq.trans (jr_cS (as := [.long 0, .int 29]) (rest := []) (v := some (.int 0)) (hp2 := jh2) (fr2 := 498) (lo2 := 19954) jF_152_15 rfl (show j_cnd 499 19976 498 19954 3 _ _ = true from rfl) ?_) ?_
  · refine Eq.trans (jr_s (pc2 := 1) (lv2 := [(0, .long 0), (2, .int 29)]) (st2 := [.long 0]) jF_101_0 rfl rfl) ?_
    refine Eq.trans (jr_s (pc2 := 2) (lv2 := [(0, .long 0), (2, .int 29)]) (st2 := [.int 29, .long 0]) jF_101_1 rfl rfl) ?_
    refine Eq.trans (jr_s (pc2 := 3) (lv2 := [(0, .long 0), (2, .int 29)]) (st2 := [.long 0]) jF_101_2 rfl rfl) ?_
    refine Eq.trans (jr_s (pc2 := 4) (lv2 := [(0, .long 0), (2, .int 29)]) (st2 := [.long 1, .long 0]) jF_101_3 rfl rfl) ?_
    refine Eq.trans (jr_s (pc2 := 5) (lv2 := [(0, .long 0), (2, .int 29)]) (st2 := [.long 0]) jF_101_4 rfl rfl) ?_
    refine Eq.trans (jr_s (pc2 := 6) (lv2 := [(0, .long 0), (2, .int 29)]) (st2 := [.long 0, .long 0]) jF_101_5 rfl rfl) ?_
    refine Eq.trans (jr_s (pc2 := 7) (lv2 := [(0, .long 0), (2, .int 29)]) (st2 := [.int 0]) jF_101_6 rfl rfl) ?_
    refine Eq.trans (jr_if1 jF_101_7 (by decide +kernel)) ?_
    refine Eq.trans (jr_s (pc2 := 15) (lv2 := [(0, .long 0), (2, .int 29)]) (st2 := [.int 0]) jF_101_14 rfl rfl) ?_
    exact jr_ri jF_101_15 rfl
  refine Eq.trans (jr_if1 jF_152_18 (by decide +kernel)) ?_
  refine Eq.trans (jr_s (pc2 := 35) (lv2 := [(4, .int 30), (3, .int 0), (0, .long 0), (2, .int a2)]) (st2 := []) jF_152_32 rfl rfl) ?_
  refine Eq.trans (jr_s (pc2 := 5) (lv2 := [(4, .int 30), (3, .int 0), (0, .long 0), (2, .int a2)]) (st2 := []) jF_152_35 rfl rfl) ?_
  refine Eq.trans (jr_s (pc2 := 7) (lv2 := [(4, .int 30), (3, .int 0), (0, .long 0), (2, .int a2)]) (st2 := [.int 30]) jF_152_5 rfl rfl) ?_
  refine Eq.trans (jr_s (pc2 := 9) (lv2 := [(4, .int 30), (3, .int 0), (0, .long 0), (2, .int a2)]) (st2 := [.int 64, .int 30]) jF_152_7 rfl rfl) ?_
  refine Eq.trans (jr_ic0 jF_152_9 (by decide +kernel)) ?_
  refine Eq.trans (jr_s (pc2 := 13) (lv2 := [(4, .int 30), (3, .int 0), (0, .long 0), (2, .int a2)]) (st2 := [.long 0]) jF_152_12 rfl rfl) ?_
  refine Eq.trans (jr_s (pc2 := 15) (lv2 := [(4, .int 30), (3, .int 0), (0, .long 0), (2, .int a2)]) (st2 := [.int 30, .long 0]) jF_152_13 rfl rfl) ?_
  refine Eq.trans (jr_cS (as := [.long 0, .int 30]) (rest := []) (v := some (.int 0)) (hp2 := jh2) (fr2 := 498) (lo2 := 19954) jF_152_15 rfl (show j_cnd 499 19976 498 19954 3 _ _ = true from rfl) ?_) ?_
  · refine Eq.trans (jr_s (pc2 := 1) (lv2 := [(0, .long 0), (2, .int 30)]) (st2 := [.long 0]) jF_101_0 rfl rfl) ?_
    refine Eq.trans (jr_s (pc2 := 2) (lv2 := [(0, .long 0), (2, .int 30)]) (st2 := [.int 30, .long 0]) jF_101_1 rfl rfl) ?_
    refine Eq.trans (jr_s (pc2 := 3) (lv2 := [(0, .long 0), (2, .int 30)]) (st2 := [.long 0]) jF_101_2 rfl rfl) ?_
    refine Eq.trans (jr_s (pc2 := 4) (lv2 := [(0, .long 0), (2, .int 30)]) (st2 := [.long 1, .long 0]) jF_101_3 rfl rfl) ?_
    refine Eq.trans (jr_s (pc2 := 5) (lv2 := [(0, .long 0), (2, .int 30)]) (st2 := [.long 0]) jF_101_4 rfl rfl) ?_
    refine Eq.trans (jr_s (pc2 := 6) (lv2 := [(0, .long 0), (2, .int 30)]) (st2 := [.long 0, .long 0]) jF_101_5 rfl rfl) ?_
    refine Eq.trans (jr_s (pc2 := 7) (lv2 := [(0, .long 0), (2, .int 30)]) (st2 := [.int 0]) jF_101_6 rfl rfl) ?_
    refine Eq.trans (jr_if1 jF_101_7 (by decide +kernel)) ?_
    refine Eq.trans (jr_s (pc2 := 15) (lv2 := [(0, .long 0), (2, .int 30)]) (st2 := [.int 0]) jF_101_14 rfl rfl) ?_
    exact jr_ri jF_101_15 rfl
  refine Eq.trans (jr_if1 jF_152_18 (by decide +kernel)) ?_
  refine Eq.trans (jr_s (pc2 := 35) (lv2 := [(4, .int 31), (3, .int 0), (0, .long 0), (2, .int a2)]) (st2 := []) jF_152_32 rfl rfl) ?_
  refine Eq.trans (jr_s (pc2 := 5) (lv2 := [(4, .int 31), (3, .int 0), (0, .long 0), (2, .int a2)]) (st2 := []) jF_152_35 rfl rfl) ?_
  refine Eq.trans (jr_s (pc2 := 7) (lv2 := [(4, .int 31), (3, .int 0), (0, .long 0), (2, .int a2)]) (st2 := [.int 31]) jF_152_5 rfl rfl) ?_
  refine Eq.trans (jr_s (pc2 := 9) (lv2 := [(4, .int 31), (3, .int 0), (0, .long 0), (2, .int a2)]) (st2 := [.int 64, .int 31]) jF_152_7 rfl rfl) ?_
  refine Eq.trans (jr_ic0 jF_152_9 (by decide +kernel)) ?_
  refine Eq.trans (jr_s (pc2 := 13) (lv2 := [(4, .int 31), (3, .int 0), (0, .long 0), (2, .int a2)]) (st2 := [.long 0]) jF_152_12 rfl rfl) ?_
  refine Eq.trans (jr_s (pc2 := 15) (lv2 := [(4, .int 31), (3, .int 0), (0, .long 0), (2, .int a2)]) (st2 := [.int 31, .long 0]) jF_152_13 rfl rfl) ?_
  refine Eq.trans (jr_cS (as := [.long 0, .int 31]) (rest := []) (v := some (.int 0)) (hp2 := jh2) (fr2 := 498) (lo2 := 19954) jF_152_15 rfl (show j_cnd 499 19976 498 19954 3 _ _ = true from rfl) ?_) ?_
  · refine Eq.trans (jr_s (pc2 := 1) (lv2 := [(0, .long 0), (2, .int 31)]) (st2 := [.long 0]) jF_101_0 rfl rfl) ?_
    refine Eq.trans (jr_s (pc2 := 2) (lv2 := [(0, .long 0), (2, .int 31)]) (st2 := [.int 31, .long 0]) jF_101_1 rfl rfl) ?_
    refine Eq.trans (jr_s (pc2 := 3) (lv2 := [(0, .long 0), (2, .int 31)]) (st2 := [.long 0]) jF_101_2 rfl rfl) ?_
    refine Eq.trans (jr_s (pc2 := 4) (lv2 := [(0, .long 0), (2, .int 31)]) (st2 := [.long 1, .long 0]) jF_101_3 rfl rfl) ?_
    refine Eq.trans (jr_s (pc2 := 5) (lv2 := [(0, .long 0), (2, .int 31)]) (st2 := [.long 0]) jF_101_4 rfl rfl) ?_
    refine Eq.trans (jr_s (pc2 := 6) (lv2 := [(0, .long 0), (2, .int 31)]) (st2 := [.long 0, .long 0]) jF_101_5 rfl rfl) ?_
    refine Eq.trans (jr_s (pc2 := 7) (lv2 := [(0, .long 0), (2, .int 31)]) (st2 := [.int 0]) jF_101_6 rfl rfl) ?_
    refine Eq.trans (jr_if1 jF_101_7 (by decide +kernel)) ?_
    refine Eq.trans (jr_s (pc2 := 15) (lv2 := [(0, .long 0), (2, .int 31)]) (st2 := [.int 0]) jF_101_14 rfl rfl) ?_
    exact jr_ri jF_101_15 rfl
  refine Eq.trans (jr_if1 jF_152_18 (by decide +kernel)) ?_
  refine Eq.trans (jr_s (pc2 := 35) (lv2 := [(4, .int 32), (3, .int 0), (0, .long 0), (2, .int a2)]) (st2 := []) jF_152_32 rfl rfl) ?_
  refine Eq.trans (jr_s (pc2 := 5) (lv2 := [(4, .int 32), (3, .int 0), (0, .long 0), (2, .int a2)]) (st2 := []) jF_152_35 rfl rfl) ?_
  refine Eq.trans (jr_s (pc2 := 7) (lv2 := [(4, .int 32), (3, .int 0), (0, .long 0), (2, .int a2)]) (st2 := [.int 32]) jF_152_5 rfl rfl) ?_
  refine Eq.trans (jr_s (pc2 := 9) (lv2 := [(4, .int 32), (3, .int 0), (0, .long 0), (2, .int a2)]) (st2 := [.int 64, .int 32]) jF_152_7 rfl rfl) ?_
  refine Eq.trans (jr_ic0 jF_152_9 (by decide +kernel)) ?_
  refine Eq.trans (jr_s (pc2 := 13) (lv2 := [(4, .int 32), (3, .int 0), (0, .long 0), (2, .int a2)]) (st2 := [.long 0]) jF_152_12 rfl rfl) ?_
  refine Eq.trans (jr_s (pc2 := 15) (lv2 := [(4, .int 32), (3, .int 0), (0, .long 0), (2, .int a2)]) (st2 := [.int 32, .long 0]) jF_152_13 rfl rfl) ?_
  refine Eq.trans (jr_cS (as := [.long 0, .int 32]) (rest := []) (v := some (.int 0)) (hp2 := jh2) (fr2 := 498) (lo2 := 19954) jF_152_15 rfl (show j_cnd 499 19976 498 19954 3 _ _ = true from rfl) ?_) ?_
  · refine Eq.trans (jr_s (pc2 := 1) (lv2 := [(0, .long 0), (2, .int 32)]) (st2 := [.long 0]) jF_101_0 rfl rfl) ?_
    refine Eq.trans (jr_s (pc2 := 2) (lv2 := [(0, .long 0), (2, .int 32)]) (st2 := [.int 32, .long 0]) jF_101_1 rfl rfl) ?_
    refine Eq.trans (jr_s (pc2 := 3) (lv2 := [(0, .long 0), (2, .int 32)]) (st2 := [.long 0]) jF_101_2 rfl rfl) ?_
    refine Eq.trans (jr_s (pc2 := 4) (lv2 := [(0, .long 0), (2, .int 32)]) (st2 := [.long 1, .long 0]) jF_101_3 rfl rfl) ?_
    refine Eq.trans (jr_s (pc2 := 5) (lv2 := [(0, .long 0), (2, .int 32)]) (st2 := [.long 0]) jF_101_4 rfl rfl) ?_
    refine Eq.trans (jr_s (pc2 := 6) (lv2 := [(0, .long 0), (2, .int 32)]) (st2 := [.long 0, .long 0]) jF_101_5 rfl rfl) ?_
    refine Eq.trans (jr_s (pc2 := 7) (lv2 := [(0, .long 0), (2, .int 32)]) (st2 := [.int 0]) jF_101_6 rfl rfl) ?_
    refine Eq.trans (jr_if1 jF_101_7 (by decide +kernel)) ?_
    refine Eq.trans (jr_s (pc2 := 15) (lv2 := [(0, .long 0), (2, .int 32)]) (st2 := [.int 0]) jF_101_14 rfl rfl) ?_
    exact jr_ri jF_101_15 rfl
  refine Eq.trans (jr_if1 jF_152_18 (by decide +kernel)) ?_
  refine Eq.trans (jr_s (pc2 := 35) (lv2 := [(4, .int 33), (3, .int 0), (0, .long 0), (2, .int a2)]) (st2 := []) jF_152_32 rfl rfl) ?_
  refine Eq.trans (jr_s (pc2 := 5) (lv2 := [(4, .int 33), (3, .int 0), (0, .long 0), (2, .int a2)]) (st2 := []) jF_152_35 rfl rfl) ?_
  refine Eq.trans (jr_s (pc2 := 7) (lv2 := [(4, .int 33), (3, .int 0), (0, .long 0), (2, .int a2)]) (st2 := [.int 33]) jF_152_5 rfl rfl) ?_
  refine Eq.trans (jr_s (pc2 := 9) (lv2 := [(4, .int 33), (3, .int 0), (0, .long 0), (2, .int a2)]) (st2 := [.int 64, .int 33]) jF_152_7 rfl rfl) ?_
  refine Eq.trans (jr_ic0 jF_152_9 (by decide +kernel)) ?_
  refine Eq.trans (jr_s (pc2 := 13) (lv2 := [(4, .int 33), (3, .int 0), (0, .long 0), (2, .int a2)]) (st2 := [.long 0]) jF_152_12 rfl rfl) ?_
  refine Eq.trans (jr_s (pc2 := 15) (lv2 := [(4, .int 33), (3, .int 0), (0, .long 0), (2, .int a2)]) (st2 := [.int 33, .long 0]) jF_152_13 rfl rfl) ?_
  refine Eq.trans (jr_cS (as := [.long 0, .int 33]) (rest := []) (v := some (.int 0)) (hp2 := jh2) (fr2 := 498) (lo2 := 19954) jF_152_15 rfl (show j_cnd 499 19976 498 19954 3 _ _ = true from rfl) ?_) ?_
  · refine Eq.trans (jr_s (pc2 := 1) (lv2 := [(0, .long 0), (2, .int 33)]) (st2 := [.long 0]) jF_101_0 rfl rfl) ?_
    refine Eq.trans (jr_s (pc2 := 2) (lv2 := [(0, .long 0), (2, .int 33)]) (st2 := [.int 33, .long 0]) jF_101_1 rfl rfl) ?_
    refine Eq.trans (jr_s (pc2 := 3) (lv2 := [(0, .long 0), (2, .int 33)]) (st2 := [.long 0]) jF_101_2 rfl rfl) ?_
    refine Eq.trans (jr_s (pc2 := 4) (lv2 := [(0, .long 0), (2, .int 33)]) (st2 := [.long 1, .long 0]) jF_101_3 rfl rfl) ?_
    refine Eq.trans (jr_s (pc2 := 5) (lv2 := [(0, .long 0), (2, .int 33)]) (st2 := [.long 0]) jF_101_4 rfl rfl) ?_
    refine Eq.trans (jr_s (pc2 := 6) (lv2 := [(0, .long 0), (2, .int 33)]) (st2 := [.long 0, .long 0]) jF_101_5 rfl rfl) ?_
    refine Eq.trans (jr_s (pc2 := 7) (lv2 := [(0, .long 0), (2, .int 33)]) (st2 := [.int 0]) jF_101_6 rfl rfl) ?_
    refine Eq.trans (jr_if1 jF_101_7 (by decide +kernel)) ?_
    refine Eq.trans (jr_s (pc2 := 15) (lv2 := [(0, .long 0), (2, .int 33)]) (st2 := [.int 0]) jF_101_14 rfl rfl) ?_
    exact jr_ri jF_101_15 rfl
  refine Eq.trans (jr_if1 jF_152_18 (by decide +kernel)) ?_
  refine Eq.trans (jr_s (pc2 := 35) (lv2 := [(4, .int 34), (3, .int 0), (0, .long 0), (2, .int a2)]) (st2 := []) jF_152_32 rfl rfl) ?_
  refine Eq.trans (jr_s (pc2 := 5) (lv2 := [(4, .int 34), (3, .int 0), (0, .long 0), (2, .int a2)]) (st2 := []) jF_152_35 rfl rfl) ?_
  refine Eq.trans (jr_s (pc2 := 7) (lv2 := [(4, .int 34), (3, .int 0), (0, .long 0), (2, .int a2)]) (st2 := [.int 34]) jF_152_5 rfl rfl) ?_
  refine Eq.trans (jr_s (pc2 := 9) (lv2 := [(4, .int 34), (3, .int 0), (0, .long 0), (2, .int a2)]) (st2 := [.int 64, .int 34]) jF_152_7 rfl rfl) ?_
  refine Eq.trans (jr_ic0 jF_152_9 (by decide +kernel)) ?_
  refine Eq.trans (jr_s (pc2 := 13) (lv2 := [(4, .int 34), (3, .int 0), (0, .long 0), (2, .int a2)]) (st2 := [.long 0]) jF_152_12 rfl rfl) ?_
  refine Eq.trans (jr_s (pc2 := 15) (lv2 := [(4, .int 34), (3, .int 0), (0, .long 0), (2, .int a2)]) (st2 := [.int 34, .long 0]) jF_152_13 rfl rfl) ?_
  refine Eq.trans (jr_cS (as := [.long 0, .int 34]) (rest := []) (v := some (.int 0)) (hp2 := jh2) (fr2 := 498) (lo2 := 19954) jF_152_15 rfl (show j_cnd 499 19976 498 19954 3 _ _ = true from rfl) ?_) ?_
  · refine Eq.trans (jr_s (pc2 := 1) (lv2 := [(0, .long 0), (2, .int 34)]) (st2 := [.long 0]) jF_101_0 rfl rfl) ?_
    refine Eq.trans (jr_s (pc2 := 2) (lv2 := [(0, .long 0), (2, .int 34)]) (st2 := [.int 34, .long 0]) jF_101_1 rfl rfl) ?_
    refine Eq.trans (jr_s (pc2 := 3) (lv2 := [(0, .long 0), (2, .int 34)]) (st2 := [.long 0]) jF_101_2 rfl rfl) ?_
    refine Eq.trans (jr_s (pc2 := 4) (lv2 := [(0, .long 0), (2, .int 34)]) (st2 := [.long 1, .long 0]) jF_101_3 rfl rfl) ?_
    refine Eq.trans (jr_s (pc2 := 5) (lv2 := [(0, .long 0), (2, .int 34)]) (st2 := [.long 0]) jF_101_4 rfl rfl) ?_
    refine Eq.trans (jr_s (pc2 := 6) (lv2 := [(0, .long 0), (2, .int 34)]) (st2 := [.long 0, .long 0]) jF_101_5 rfl rfl) ?_
    refine Eq.trans (jr_s (pc2 := 7) (lv2 := [(0, .long 0), (2, .int 34)]) (st2 := [.int 0]) jF_101_6 rfl rfl) ?_
    refine Eq.trans (jr_if1 jF_101_7 (by decide +kernel)) ?_
    refine Eq.trans (jr_s (pc2 := 15) (lv2 := [(0, .long 0), (2, .int 34)]) (st2 := [.int 0]) jF_101_14 rfl rfl) ?_
    exact jr_ri jF_101_15 rfl
  refine Eq.trans (jr_if1 jF_152_18 (by decide +kernel)) ?_
  refine Eq.trans (jr_s (pc2 := 35) (lv2 := [(4, .int 35), (3, .int 0), (0, .long 0), (2, .int a2)]) (st2 := []) jF_152_32 rfl rfl) ?_
  refine Eq.trans (jr_s (pc2 := 5) (lv2 := [(4, .int 35), (3, .int 0), (0, .long 0), (2, .int a2)]) (st2 := []) jF_152_35 rfl rfl) ?_
  refine Eq.trans (jr_s (pc2 := 7) (lv2 := [(4, .int 35), (3, .int 0), (0, .long 0), (2, .int a2)]) (st2 := [.int 35]) jF_152_5 rfl rfl) ?_
  refine Eq.trans (jr_s (pc2 := 9) (lv2 := [(4, .int 35), (3, .int 0), (0, .long 0), (2, .int a2)]) (st2 := [.int 64, .int 35]) jF_152_7 rfl rfl) ?_
  refine Eq.trans (jr_ic0 jF_152_9 (by decide +kernel)) ?_
  refine Eq.trans (jr_s (pc2 := 13) (lv2 := [(4, .int 35), (3, .int 0), (0, .long 0), (2, .int a2)]) (st2 := [.long 0]) jF_152_12 rfl rfl) ?_
  refine Eq.trans (jr_s (pc2 := 15) (lv2 := [(4, .int 35), (3, .int 0), (0, .long 0), (2, .int a2)]) (st2 := [.int 35, .long 0]) jF_152_13 rfl rfl) ?_
  refine Eq.trans (jr_cS (as := [.long 0, .int 35]) (rest := []) (v := some (.int 0)) (hp2 := jh2) (fr2 := 498) (lo2 := 19954) jF_152_15 rfl (show j_cnd 499 19976 498 19954 3 _ _ = true from rfl) ?_) ?_
  · refine Eq.trans (jr_s (pc2 := 1) (lv2 := [(0, .long 0), (2, .int 35)]) (st2 := [.long 0]) jF_101_0 rfl rfl) ?_
    refine Eq.trans (jr_s (pc2 := 2) (lv2 := [(0, .long 0), (2, .int 35)]) (st2 := [.int 35, .long 0]) jF_101_1 rfl rfl) ?_
    refine Eq.trans (jr_s (pc2 := 3) (lv2 := [(0, .long 0), (2, .int 35)]) (st2 := [.long 0]) jF_101_2 rfl rfl) ?_
    refine Eq.trans (jr_s (pc2 := 4) (lv2 := [(0, .long 0), (2, .int 35)]) (st2 := [.long 1, .long 0]) jF_101_3 rfl rfl) ?_
    refine Eq.trans (jr_s (pc2 := 5) (lv2 := [(0, .long 0), (2, .int 35)]) (st2 := [.long 0]) jF_101_4 rfl rfl) ?_
    refine Eq.trans (jr_s (pc2 := 6) (lv2 := [(0, .long 0), (2, .int 35)]) (st2 := [.long 0, .long 0]) jF_101_5 rfl rfl) ?_
    refine Eq.trans (jr_s (pc2 := 7) (lv2 := [(0, .long 0), (2, .int 35)]) (st2 := [.int 0]) jF_101_6 rfl rfl) ?_
    refine Eq.trans (jr_if1 jF_101_7 (by decide +kernel)) ?_
    refine Eq.trans (jr_s (pc2 := 15) (lv2 := [(0, .long 0), (2, .int 35)]) (st2 := [.int 0]) jF_101_14 rfl rfl) ?_
    exact jr_ri jF_101_15 rfl
  refine Eq.trans (jr_if1 jF_152_18 (by decide +kernel)) ?_
  refine Eq.trans (jr_s (pc2 := 35) (lv2 := [(4, .int 36), (3, .int 0), (0, .long 0), (2, .int a2)]) (st2 := []) jF_152_32 rfl rfl) ?_
  refine Eq.trans (jr_s (pc2 := 5) (lv2 := [(4, .int 36), (3, .int 0), (0, .long 0), (2, .int a2)]) (st2 := []) jF_152_35 rfl rfl) ?_
  refine Eq.trans (jr_s (pc2 := 7) (lv2 := [(4, .int 36), (3, .int 0), (0, .long 0), (2, .int a2)]) (st2 := [.int 36]) jF_152_5 rfl rfl) ?_
  refine Eq.trans (jr_s (pc2 := 9) (lv2 := [(4, .int 36), (3, .int 0), (0, .long 0), (2, .int a2)]) (st2 := [.int 64, .int 36]) jF_152_7 rfl rfl) ?_
  refine Eq.trans (jr_ic0 jF_152_9 (by decide +kernel)) ?_
  refine Eq.trans (jr_s (pc2 := 13) (lv2 := [(4, .int 36), (3, .int 0), (0, .long 0), (2, .int a2)]) (st2 := [.long 0]) jF_152_12 rfl rfl) ?_
  refine Eq.trans (jr_s (pc2 := 15) (lv2 := [(4, .int 36), (3, .int 0), (0, .long 0), (2, .int a2)]) (st2 := [.int 36, .long 0]) jF_152_13 rfl rfl) ?_
  refine Eq.trans (jr_cS (as := [.long 0, .int 36]) (rest := []) (v := some (.int 0)) (hp2 := jh2) (fr2 := 498) (lo2 := 19954) jF_152_15 rfl (show j_cnd 499 19976 498 19954 3 _ _ = true from rfl) ?_) ?_
  · refine Eq.trans (jr_s (pc2 := 1) (lv2 := [(0, .long 0), (2, .int 36)]) (st2 := [.long 0]) jF_101_0 rfl rfl) ?_
    refine Eq.trans (jr_s (pc2 := 2) (lv2 := [(0, .long 0), (2, .int 36)]) (st2 := [.int 36, .long 0]) jF_101_1 rfl rfl) ?_
    refine Eq.trans (jr_s (pc2 := 3) (lv2 := [(0, .long 0), (2, .int 36)]) (st2 := [.long 0]) jF_101_2 rfl rfl) ?_
    refine Eq.trans (jr_s (pc2 := 4) (lv2 := [(0, .long 0), (2, .int 36)]) (st2 := [.long 1, .long 0]) jF_101_3 rfl rfl) ?_
    refine Eq.trans (jr_s (pc2 := 5) (lv2 := [(0, .long 0), (2, .int 36)]) (st2 := [.long 0]) jF_101_4 rfl rfl) ?_
    refine Eq.trans (jr_s (pc2 := 6) (lv2 := [(0, .long 0), (2, .int 36)]) (st2 := [.long 0, .long 0]) jF_101_5 rfl rfl) ?_
    refine Eq.trans (jr_s (pc2 := 7) (lv2 := [(0, .long 0), (2, .int 36)]) (st2 := [.int 0]) jF_101_6 rfl rfl) ?_
    refine Eq.trans (jr_if1 jF_101_7 (by decide +kernel)) ?_
    refine Eq.trans (jr_s (pc2 := 15) (lv2 := [(0, .long 0), (2, .int 36)]) (st2 := [.int 0]) jF_101_14 rfl rfl) ?_
    exact jr_ri jF_101_15 rfl
  refine Eq.trans (jr_if1 jF_152_18 (by decide +kernel)) ?_
  refine Eq.trans (jr_s (pc2 := 35) (lv2 := [(4, .int 37), (3, .int 0), (0, .long 0), (2, .int a2)]) (st2 := []) jF_152_32 rfl rfl) ?_
  refine Eq.trans (jr_s (pc2 := 5) (lv2 := [(4, .int 37), (3, .int 0), (0, .long 0), (2, .int a2)]) (st2 := []) jF_152_35 rfl rfl) ?_
  refine Eq.trans (jr_s (pc2 := 7) (lv2 := [(4, .int 37), (3, .int 0), (0, .long 0), (2, .int a2)]) (st2 := [.int 37]) jF_152_5 rfl rfl) ?_
  refine Eq.trans (jr_s (pc2 := 9) (lv2 := [(4, .int 37), (3, .int 0), (0, .long 0), (2, .int a2)]) (st2 := [.int 64, .int 37]) jF_152_7 rfl rfl) ?_
  refine Eq.trans (jr_ic0 jF_152_9 (by decide +kernel)) ?_
  refine Eq.trans (jr_s (pc2 := 13) (lv2 := [(4, .int 37), (3, .int 0), (0, .long 0), (2, .int a2)]) (st2 := [.long 0]) jF_152_12 rfl rfl) ?_
  refine Eq.trans (jr_s (pc2 := 15) (lv2 := [(4, .int 37), (3, .int 0), (0, .long 0), (2, .int a2)]) (st2 := [.int 37, .long 0]) jF_152_13 rfl rfl) ?_
  refine Eq.trans (jr_cS (as := [.long 0, .int 37]) (rest := []) (v := some (.int 0)) (hp2 := jh2) (fr2 := 498) (lo2 := 19954) jF_152_15 rfl (show j_cnd 499 19976 498 19954 3 _ _ = true from rfl) ?_) ?_
  · refine Eq.trans (jr_s (pc2 := 1) (lv2 := [(0, .long 0), (2, .int 37)]) (st2 := [.long 0]) jF_101_0 rfl rfl) ?_
    refine Eq.trans (jr_s (pc2 := 2) (lv2 := [(0, .long 0), (2, .int 37)]) (st2 := [.int 37, .long 0]) jF_101_1 rfl rfl) ?_
    refine Eq.trans (jr_s (pc2 := 3) (lv2 := [(0, .long 0), (2, .int 37)]) (st2 := [.long 0]) jF_101_2 rfl rfl) ?_
    refine Eq.trans (jr_s (pc2 := 4) (lv2 := [(0, .long 0), (2, .int 37)]) (st2 := [.long 1, .long 0]) jF_101_3 rfl rfl) ?_
    refine Eq.trans (jr_s (pc2 := 5) (lv2 := [(0, .long 0), (2, .int 37)]) (st2 := [.long 0]) jF_101_4 rfl rfl) ?_
    refine Eq.trans (jr_s (pc2 := 6) (lv2 := [(0, .long 0), (2, .int 37)]) (st2 := [.long 0, .long 0]) jF_101_5 rfl rfl) ?_
    refine Eq.trans (jr_s (pc2 := 7) (lv2 := [(0, .long 0), (2, .int 37)]) (st2 := [.int 0]) jF_101_6 rfl rfl) ?_
    refine Eq.trans (jr_if1 jF_101_7 (by decide +kernel)) ?_
    refine Eq.trans (jr_s (pc2 := 15) (lv2 := [(0, .long 0), (2, .int 37)]) (st2 := [.int 0]) jF_101_14 rfl rfl) ?_
    exact jr_ri jF_101_15 rfl
  refine Eq.trans (jr_if1 jF_152_18 (by decide +kernel)) ?_
  refine Eq.trans (jr_s (pc2 := 35) (lv2 := [(4, .int 38), (3, .int 0), (0, .long 0), (2, .int a2)]) (st2 := []) jF_152_32 rfl rfl) ?_
  refine Eq.trans (jr_s (pc2 := 5) (lv2 := [(4, .int 38), (3, .int 0), (0, .long 0), (2, .int a2)]) (st2 := []) jF_152_35 rfl rfl) ?_
  refine Eq.trans (jr_s (pc2 := 7) (lv2 := [(4, .int 38), (3, .int 0), (0, .long 0), (2, .int a2)]) (st2 := [.int 38]) jF_152_5 rfl rfl) ?_
  refine Eq.trans (jr_s (pc2 := 9) (lv2 := [(4, .int 38), (3, .int 0), (0, .long 0), (2, .int a2)]) (st2 := [.int 64, .int 38]) jF_152_7 rfl rfl) ?_
  refine Eq.trans (jr_ic0 jF_152_9 (by decide +kernel)) ?_
  refine Eq.trans (jr_s (pc2 := 13) (lv2 := [(4, .int 38), (3, .int 0), (0, .long 0), (2, .int a2)]) (st2 := [.long 0]) jF_152_12 rfl rfl) ?_
  refine Eq.trans (jr_s (pc2 := 15) (lv2 := [(4, .int 38), (3, .int 0), (0, .long 0), (2, .int a2)]) (st2 := [.int 38, .long 0]) jF_152_13 rfl rfl) ?_
  refine Eq.trans (jr_cS (as := [.long 0, .int 38]) (rest := []) (v := some (.int 0)) (hp2 := jh2) (fr2 := 498) (lo2 := 19954) jF_152_15 rfl (show j_cnd 499 19976 498 19954 3 _ _ = true from rfl) ?_) ?_
  · refine Eq.trans (jr_s (pc2 := 1) (lv2 := [(0, .long 0), (2, .int 38)]) (st2 := [.long 0]) jF_101_0 rfl rfl) ?_
    refine Eq.trans (jr_s (pc2 := 2) (lv2 := [(0, .long 0), (2, .int 38)]) (st2 := [.int 38, .long 0]) jF_101_1 rfl rfl) ?_
    refine Eq.trans (jr_s (pc2 := 3) (lv2 := [(0, .long 0), (2, .int 38)]) (st2 := [.long 0]) jF_101_2 rfl rfl) ?_
    refine Eq.trans (jr_s (pc2 := 4) (lv2 := [(0, .long 0), (2, .int 38)]) (st2 := [.long 1, .long 0]) jF_101_3 rfl rfl) ?_
    refine Eq.trans (jr_s (pc2 := 5) (lv2 := [(0, .long 0), (2, .int 38)]) (st2 := [.long 0]) jF_101_4 rfl rfl) ?_
    refine Eq.trans (jr_s (pc2 := 6) (lv2 := [(0, .long 0), (2, .int 38)]) (st2 := [.long 0, .long 0]) jF_101_5 rfl rfl) ?_
    refine Eq.trans (jr_s (pc2 := 7) (lv2 := [(0, .long 0), (2, .int 38)]) (st2 := [.int 0]) jF_101_6 rfl rfl) ?_
    refine Eq.trans (jr_if1 jF_101_7 (by decide +kernel)) ?_
    refine Eq.trans (jr_s (pc2 := 15) (lv2 := [(0, .long 0), (2, .int 38)]) (st2 := [.int 0]) jF_101_14 rfl rfl) ?_
    exact jr_ri jF_101_15 rfl
  refine Eq.trans (jr_if1 jF_152_18 (by decide +kernel)) ?_
  refine Eq.trans (jr_s (pc2 := 35) (lv2 := [(4, .int 39), (3, .int 0), (0, .long 0), (2, .int a2)]) (st2 := []) jF_152_32 rfl rfl) ?_
  refine Eq.trans (jr_s (pc2 := 5) (lv2 := [(4, .int 39), (3, .int 0), (0, .long 0), (2, .int a2)]) (st2 := []) jF_152_35 rfl rfl) ?_
  refine Eq.trans (jr_s (pc2 := 7) (lv2 := [(4, .int 39), (3, .int 0), (0, .long 0), (2, .int a2)]) (st2 := [.int 39]) jF_152_5 rfl rfl) ?_
  refine Eq.trans (jr_s (pc2 := 9) (lv2 := [(4, .int 39), (3, .int 0), (0, .long 0), (2, .int a2)]) (st2 := [.int 64, .int 39]) jF_152_7 rfl rfl) ?_
  refine Eq.trans (jr_ic0 jF_152_9 (by decide +kernel)) ?_
  refine Eq.trans (jr_s (pc2 := 13) (lv2 := [(4, .int 39), (3, .int 0), (0, .long 0), (2, .int a2)]) (st2 := [.long 0]) jF_152_12 rfl rfl) ?_
  refine Eq.trans (jr_s (pc2 := 15) (lv2 := [(4, .int 39), (3, .int 0), (0, .long 0), (2, .int a2)]) (st2 := [.int 39, .long 0]) jF_152_13 rfl rfl) ?_
  refine Eq.trans (jr_cS (as := [.long 0, .int 39]) (rest := []) (v := some (.int 0)) (hp2 := jh2) (fr2 := 498) (lo2 := 19954) jF_152_15 rfl (show j_cnd 499 19976 498 19954 3 _ _ = true from rfl) ?_) ?_
  · refine Eq.trans (jr_s (pc2 := 1) (lv2 := [(0, .long 0), (2, .int 39)]) (st2 := [.long 0]) jF_101_0 rfl rfl) ?_
    refine Eq.trans (jr_s (pc2 := 2) (lv2 := [(0, .long 0), (2, .int 39)]) (st2 := [.int 39, .long 0]) jF_101_1 rfl rfl) ?_
    refine Eq.trans (jr_s (pc2 := 3) (lv2 := [(0, .long 0), (2, .int 39)]) (st2 := [.long 0]) jF_101_2 rfl rfl) ?_
    refine Eq.trans (jr_s (pc2 := 4) (lv2 := [(0, .long 0), (2, .int 39)]) (st2 := [.long 1, .long 0]) jF_101_3 rfl rfl) ?_
    refine Eq.trans (jr_s (pc2 := 5) (lv2 := [(0, .long 0), (2, .int 39)]) (st2 := [.long 0]) jF_101_4 rfl rfl) ?_
    refine Eq.trans (jr_s (pc2 := 6) (lv2 := [(0, .long 0), (2, .int 39)]) (st2 := [.long 0, .long 0]) jF_101_5 rfl rfl) ?_
    refine Eq.trans (jr_s (pc2 := 7) (lv2 := [(0, .long 0), (2, .int 39)]) (st2 := [.int 0]) jF_101_6 rfl rfl) ?_
    refine Eq.trans (jr_if1 jF_101_7 (by decide +kernel)) ?_
    refine Eq.trans (jr_s (pc2 := 15) (lv2 := [(0, .long 0), (2, .int 39)]) (st2 := [.int 0]) jF_101_14 rfl rfl) ?_
    exact jr_ri jF_101_15 rfl
  refine Eq.trans (jr_if1 jF_152_18 (by decide +kernel)) ?_
  refine Eq.trans (jr_s (pc2 := 35) (lv2 := [(4, .int 40), (3, .int 0), (0, .long 0), (2, .int a2)]) (st2 := []) jF_152_32 rfl rfl) ?_
  refine Eq.trans (jr_s (pc2 := 5) (lv2 := [(4, .int 40), (3, .int 0), (0, .long 0), (2, .int a2)]) (st2 := []) jF_152_35 rfl rfl) ?_
  refine Eq.trans (jr_s (pc2 := 7) (lv2 := [(4, .int 40), (3, .int 0), (0, .long 0), (2, .int a2)]) (st2 := [.int 40]) jF_152_5 rfl rfl) ?_
  refine Eq.trans (jr_s (pc2 := 9) (lv2 := [(4, .int 40), (3, .int 0), (0, .long 0), (2, .int a2)]) (st2 := [.int 64, .int 40]) jF_152_7 rfl rfl) ?_
  refine Eq.trans (jr_ic0 jF_152_9 (by decide +kernel)) ?_
  refine Eq.trans (jr_s (pc2 := 13) (lv2 := [(4, .int 40), (3, .int 0), (0, .long 0), (2, .int a2)]) (st2 := [.long 0]) jF_152_12 rfl rfl) ?_
  refine Eq.trans (jr_s (pc2 := 15) (lv2 := [(4, .int 40), (3, .int 0), (0, .long 0), (2, .int a2)]) (st2 := [.int 40, .long 0]) jF_152_13 rfl rfl) ?_
  refine Eq.trans (jr_cS (as := [.long 0, .int 40]) (rest := []) (v := some (.int 0)) (hp2 := jh2) (fr2 := 498) (lo2 := 19954) jF_152_15 rfl (show j_cnd 499 19976 498 19954 3 _ _ = true from rfl) ?_) ?_
  · refine Eq.trans (jr_s (pc2 := 1) (lv2 := [(0, .long 0), (2, .int 40)]) (st2 := [.long 0]) jF_101_0 rfl rfl) ?_
    refine Eq.trans (jr_s (pc2 := 2) (lv2 := [(0, .long 0), (2, .int 40)]) (st2 := [.int 40, .long 0]) jF_101_1 rfl rfl) ?_
    refine Eq.trans (jr_s (pc2 := 3) (lv2 := [(0, .long 0), (2, .int 40)]) (st2 := [.long 0]) jF_101_2 rfl rfl) ?_
    refine Eq.trans (jr_s (pc2 := 4) (lv2 := [(0, .long 0), (2, .int 40)]) (st2 := [.long 1, .long 0]) jF_101_3 rfl rfl) ?_
    refine Eq.trans (jr_s (pc2 := 5) (lv2 := [(0, .long 0), (2, .int 40)]) (st2 := [.long 0]) jF_101_4 rfl rfl) ?_
    refine Eq.trans (jr_s (pc2 := 6) (lv2 := [(0, .long 0), (2, .int 40)]) (st2 := [.long 0, .long 0]) jF_101_5 rfl rfl) ?_
    refine Eq.trans (jr_s (pc2 := 7) (lv2 := [(0, .long 0), (2, .int 40)]) (st2 := [.int 0]) jF_101_6 rfl rfl) ?_
    refine Eq.trans (jr_if1 jF_101_7 (by decide +kernel)) ?_
    refine Eq.trans (jr_s (pc2 := 15) (lv2 := [(0, .long 0), (2, .int 40)]) (st2 := [.int 0]) jF_101_14 rfl rfl) ?_
    exact jr_ri jF_101_15 rfl
  refine Eq.trans (jr_if1 jF_152_18 (by decide +kernel)) ?_
  refine Eq.trans (jr_s (pc2 := 35) (lv2 := [(4, .int 41), (3, .int 0), (0, .long 0), (2, .int a2)]) (st2 := []) jF_152_32 rfl rfl) ?_
  refine Eq.trans (jr_s (pc2 := 5) (lv2 := [(4, .int 41), (3, .int 0), (0, .long 0), (2, .int a2)]) (st2 := []) jF_152_35 rfl rfl) ?_
  refine Eq.trans (jr_s (pc2 := 7) (lv2 := [(4, .int 41), (3, .int 0), (0, .long 0), (2, .int a2)]) (st2 := [.int 41]) jF_152_5 rfl rfl) ?_
  refine Eq.trans (jr_s (pc2 := 9) (lv2 := [(4, .int 41), (3, .int 0), (0, .long 0), (2, .int a2)]) (st2 := [.int 64, .int 41]) jF_152_7 rfl rfl) ?_
  refine Eq.trans (jr_ic0 jF_152_9 (by decide +kernel)) ?_
  refine Eq.trans (jr_s (pc2 := 13) (lv2 := [(4, .int 41), (3, .int 0), (0, .long 0), (2, .int a2)]) (st2 := [.long 0]) jF_152_12 rfl rfl) ?_
  refine Eq.trans (jr_s (pc2 := 15) (lv2 := [(4, .int 41), (3, .int 0), (0, .long 0), (2, .int a2)]) (st2 := [.int 41, .long 0]) jF_152_13 rfl rfl) ?_
  refine Eq.trans (jr_cS (as := [.long 0, .int 41]) (rest := []) (v := some (.int 0)) (hp2 := jh2) (fr2 := 498) (lo2 := 19954) jF_152_15 rfl (show j_cnd 499 19976 498 19954 3 _ _ = true from rfl) ?_) ?_
  · refine Eq.trans (jr_s (pc2 := 1) (lv2 := [(0, .long 0), (2, .int 41)]) (st2 := [.long 0]) jF_101_0 rfl rfl) ?_
    refine Eq.trans (jr_s (pc2 := 2) (lv2 := [(0, .long 0), (2, .int 41)]) (st2 := [.int 41, .long 0]) jF_101_1 rfl rfl) ?_
    refine Eq.trans (jr_s (pc2 := 3) (lv2 := [(0, .long 0), (2, .int 41)]) (st2 := [.long 0]) jF_101_2 rfl rfl) ?_
    refine Eq.trans (jr_s (pc2 := 4) (lv2 := [(0, .long 0), (2, .int 41)]) (st2 := [.long 1, .long 0]) jF_101_3 rfl rfl) ?_
    refine Eq.trans (jr_s (pc2 := 5) (lv2 := [(0, .long 0), (2, .int 41)]) (st2 := [.long 0]) jF_101_4 rfl rfl) ?_
    refine Eq.trans (jr_s (pc2 := 6) (lv2 := [(0, .long 0), (2, .int 41)]) (st2 := [.long 0, .long 0]) jF_101_5 rfl rfl) ?_
    refine Eq.trans (jr_s (pc2 := 7) (lv2 := [(0, .long 0), (2, .int 41)]) (st2 := [.int 0]) jF_101_6 rfl rfl) ?_
    refine Eq.trans (jr_if1 jF_101_7 (by decide +kernel)) ?_
    refine Eq.trans (jr_s (pc2 := 15) (lv2 := [(0, .long 0), (2, .int 41)]) (st2 := [.int 0]) jF_101_14 rfl rfl) ?_
    exact jr_ri jF_101_15 rfl
  refine Eq.trans (jr_if1 jF_152_18 (by decide +kernel)) ?_
  refine Eq.trans (jr_s (pc2 := 35) (lv2 := [(4, .int 42), (3, .int 0), (0, .long 0), (2, .int a2)]) (st2 := []) jF_152_32 rfl rfl) ?_
  refine Eq.trans (jr_s (pc2 := 5) (lv2 := [(4, .int 42), (3, .int 0), (0, .long 0), (2, .int a2)]) (st2 := []) jF_152_35 rfl rfl) ?_
  refine Eq.trans (jr_s (pc2 := 7) (lv2 := [(4, .int 42), (3, .int 0), (0, .long 0), (2, .int a2)]) (st2 := [.int 42]) jF_152_5 rfl rfl) ?_
  refine Eq.trans (jr_s (pc2 := 9) (lv2 := [(4, .int 42), (3, .int 0), (0, .long 0), (2, .int a2)]) (st2 := [.int 64, .int 42]) jF_152_7 rfl rfl) ?_
  refine Eq.trans (jr_ic0 jF_152_9 (by decide +kernel)) ?_
  refine Eq.trans (jr_s (pc2 := 13) (lv2 := [(4, .int 42), (3, .int 0), (0, .long 0), (2, .int a2)]) (st2 := [.long 0]) jF_152_12 rfl rfl) ?_
  refine Eq.trans (jr_s (pc2 := 15) (lv2 := [(4, .int 42), (3, .int 0), (0, .long 0), (2, .int a2)]) (st2 := [.int 42, .long 0]) jF_152_13 rfl rfl) ?_
  refine Eq.trans (jr_cS (as := [.long 0, .int 42]) (rest := []) (v := some (.int 0)) (hp2 := jh2) (fr2 := 498) (lo2 := 19954) jF_152_15 rfl (show j_cnd 499 19976 498 19954 3 _ _ = true from rfl) ?_) ?_
  · refine Eq.trans (jr_s (pc2 := 1) (lv2 := [(0, .long 0), (2, .int 42)]) (st2 := [.long 0]) jF_101_0 rfl rfl) ?_
    refine Eq.trans (jr_s (pc2 := 2) (lv2 := [(0, .long 0), (2, .int 42)]) (st2 := [.int 42, .long 0]) jF_101_1 rfl rfl) ?_
    refine Eq.trans (jr_s (pc2 := 3) (lv2 := [(0, .long 0), (2, .int 42)]) (st2 := [.long 0]) jF_101_2 rfl rfl) ?_
    refine Eq.trans (jr_s (pc2 := 4) (lv2 := [(0, .long 0), (2, .int 42)]) (st2 := [.long 1, .long 0]) jF_101_3 rfl rfl) ?_
    refine Eq.trans (jr_s (pc2 := 5) (lv2 := [(0, .long 0), (2, .int 42)]) (st2 := [.long 0]) jF_101_4 rfl rfl) ?_
    refine Eq.trans (jr_s (pc2 := 6) (lv2 := [(0, .long 0), (2, .int 42)]) (st2 := [.long 0, .long 0]) jF_101_5 rfl rfl) ?_
    refine Eq.trans (jr_s (pc2 := 7) (lv2 := [(0, .long 0), (2, .int 42)]) (st2 := [.int 0]) jF_101_6 rfl rfl) ?_
    refine Eq.trans (jr_if1 jF_101_7 (by decide +kernel)) ?_
    refine Eq.trans (jr_s (pc2 := 15) (lv2 := [(0, .long 0), (2, .int 42)]) (st2 := [.int 0]) jF_101_14 rfl rfl) ?_
    exact jr_ri jF_101_15 rfl
  refine Eq.trans (jr_if1 jF_152_18 (by decide +kernel)) ?_
  refine Eq.trans (jr_s (pc2 := 35) (lv2 := [(4, .int 43), (3, .int 0), (0, .long 0), (2, .int a2)]) (st2 := []) jF_152_32 rfl rfl) ?_
  refine Eq.trans (jr_s (pc2 := 5) (lv2 := [(4, .int 43), (3, .int 0), (0, .long 0), (2, .int a2)]) (st2 := []) jF_152_35 rfl rfl) ?_
  refine Eq.trans (jr_s (pc2 := 7) (lv2 := [(4, .int 43), (3, .int 0), (0, .long 0), (2, .int a2)]) (st2 := [.int 43]) jF_152_5 rfl rfl) ?_
  refine Eq.trans (jr_s (pc2 := 9) (lv2 := [(4, .int 43), (3, .int 0), (0, .long 0), (2, .int a2)]) (st2 := [.int 64, .int 43]) jF_152_7 rfl rfl) ?_
  refine Eq.trans (jr_ic0 jF_152_9 (by decide +kernel)) ?_
  refine Eq.trans (jr_s (pc2 := 13) (lv2 := [(4, .int 43), (3, .int 0), (0, .long 0), (2, .int a2)]) (st2 := [.long 0]) jF_152_12 rfl rfl) ?_
  refine Eq.trans (jr_s (pc2 := 15) (lv2 := [(4, .int 43), (3, .int 0), (0, .long 0), (2, .int a2)]) (st2 := [.int 43, .long 0]) jF_152_13 rfl rfl) ?_
  refine Eq.trans (jr_cS (as := [.long 0, .int 43]) (rest := []) (v := some (.int 0)) (hp2 := jh2) (fr2 := 498) (lo2 := 19954) jF_152_15 rfl (show j_cnd 499 19976 498 19954 3 _ _ = true from rfl) ?_) ?_
  · refine Eq.trans (jr_s (pc2 := 1) (lv2 := [(0, .long 0), (2, .int 43)]) (st2 := [.long 0]) jF_101_0 rfl rfl) ?_
    refine Eq.trans (jr_s (pc2 := 2) (lv2 := [(0, .long 0), (2, .int 43)]) (st2 := [.int 43, .long 0]) jF_101_1 rfl rfl) ?_
    refine Eq.trans (jr_s (pc2 := 3) (lv2 := [(0, .long 0), (2, .int 43)]) (st2 := [.long 0]) jF_101_2 rfl rfl) ?_
    refine Eq.trans (jr_s (pc2 := 4) (lv2 := [(0, .long 0), (2, .int 43)]) (st2 := [.long 1, .long 0]) jF_101_3 rfl rfl) ?_
    refine Eq.trans (jr_s (pc2 := 5) (lv2 := [(0, .long 0), (2, .int 43)]) (st2 := [.long 0]) jF_101_4 rfl rfl) ?_
    refine Eq.trans (jr_s (pc2 := 6) (lv2 := [(0, .long 0), (2, .int 43)]) (st2 := [.long 0, .long 0]) jF_101_5 rfl rfl) ?_
    refine Eq.trans (jr_s (pc2 := 7) (lv2 := [(0, .long 0), (2, .int 43)]) (st2 := [.int 0]) jF_101_6 rfl rfl) ?_
    refine Eq.trans (jr_if1 jF_101_7 (by decide +kernel)) ?_
    refine Eq.trans (jr_s (pc2 := 15) (lv2 := [(0, .long 0), (2, .int 43)]) (st2 := [.int 0]) jF_101_14 rfl rfl) ?_
    exact jr_ri jF_101_15 rfl
  refine Eq.trans (jr_if1 jF_152_18 (by decide +kernel)) ?_
  refine Eq.trans (jr_s (pc2 := 35) (lv2 := [(4, .int 44), (3, .int 0), (0, .long 0), (2, .int a2)]) (st2 := []) jF_152_32 rfl rfl) ?_
  refine Eq.trans (jr_s (pc2 := 5) (lv2 := [(4, .int 44), (3, .int 0), (0, .long 0), (2, .int a2)]) (st2 := []) jF_152_35 rfl rfl) ?_
  refine Eq.trans (jr_s (pc2 := 7) (lv2 := [(4, .int 44), (3, .int 0), (0, .long 0), (2, .int a2)]) (st2 := [.int 44]) jF_152_5 rfl rfl) ?_
  refine Eq.trans (jr_s (pc2 := 9) (lv2 := [(4, .int 44), (3, .int 0), (0, .long 0), (2, .int a2)]) (st2 := [.int 64, .int 44]) jF_152_7 rfl rfl) ?_
  refine Eq.trans (jr_ic0 jF_152_9 (by decide +kernel)) ?_
  refine Eq.trans (jr_s (pc2 := 13) (lv2 := [(4, .int 44), (3, .int 0), (0, .long 0), (2, .int a2)]) (st2 := [.long 0]) jF_152_12 rfl rfl) ?_
  refine Eq.trans (jr_s (pc2 := 15) (lv2 := [(4, .int 44), (3, .int 0), (0, .long 0), (2, .int a2)]) (st2 := [.int 44, .long 0]) jF_152_13 rfl rfl) ?_
  refine Eq.trans (jr_cS (as := [.long 0, .int 44]) (rest := []) (v := some (.int 0)) (hp2 := jh2) (fr2 := 498) (lo2 := 19954) jF_152_15 rfl (show j_cnd 499 19976 498 19954 3 _ _ = true from rfl) ?_) ?_
  · refine Eq.trans (jr_s (pc2 := 1) (lv2 := [(0, .long 0), (2, .int 44)]) (st2 := [.long 0]) jF_101_0 rfl rfl) ?_
    refine Eq.trans (jr_s (pc2 := 2) (lv2 := [(0, .long 0), (2, .int 44)]) (st2 := [.int 44, .long 0]) jF_101_1 rfl rfl) ?_
    refine Eq.trans (jr_s (pc2 := 3) (lv2 := [(0, .long 0), (2, .int 44)]) (st2 := [.long 0]) jF_101_2 rfl rfl) ?_
    refine Eq.trans (jr_s (pc2 := 4) (lv2 := [(0, .long 0), (2, .int 44)]) (st2 := [.long 1, .long 0]) jF_101_3 rfl rfl) ?_
    refine Eq.trans (jr_s (pc2 := 5) (lv2 := [(0, .long 0), (2, .int 44)]) (st2 := [.long 0]) jF_101_4 rfl rfl) ?_
    refine Eq.trans (jr_s (pc2 := 6) (lv2 := [(0, .long 0), (2, .int 44)]) (st2 := [.long 0, .long 0]) jF_101_5 rfl rfl) ?_
    refine Eq.trans (jr_s (pc2 := 7) (lv2 := [(0, .long 0), (2, .int 44)]) (st2 := [.int 0]) jF_101_6 rfl rfl) ?_
    refine Eq.trans (jr_if1 jF_101_7 (by decide +kernel)) ?_
    refine Eq.trans (jr_s (pc2 := 15) (lv2 := [(0, .long 0), (2, .int 44)]) (st2 := [.int 0]) jF_101_14 rfl rfl) ?_
    exact jr_ri jF_101_15 rfl
  refine Eq.trans (jr_if1 jF_152_18 (by decide +kernel)) ?_
  refine Eq.trans (jr_s (pc2 := 35) (lv2 := [(4, .int 45), (3, .int 0), (0, .long 0), (2, .int a2)]) (st2 := []) jF_152_32 rfl rfl) ?_
  refine Eq.trans (jr_s (pc2 := 5) (lv2 := [(4, .int 45), (3, .int 0), (0, .long 0), (2, .int a2)]) (st2 := []) jF_152_35 rfl rfl) ?_
  refine Eq.trans (jr_s (pc2 := 7) (lv2 := [(4, .int 45), (3, .int 0), (0, .long 0), (2, .int a2)]) (st2 := [.int 45]) jF_152_5 rfl rfl) ?_
  refine Eq.trans (jr_s (pc2 := 9) (lv2 := [(4, .int 45), (3, .int 0), (0, .long 0), (2, .int a2)]) (st2 := [.int 64, .int 45]) jF_152_7 rfl rfl) ?_
  refine Eq.trans (jr_ic0 jF_152_9 (by decide +kernel)) ?_
  refine Eq.trans (jr_s (pc2 := 13) (lv2 := [(4, .int 45), (3, .int 0), (0, .long 0), (2, .int a2)]) (st2 := [.long 0]) jF_152_12 rfl rfl) ?_
  refine Eq.trans (jr_s (pc2 := 15) (lv2 := [(4, .int 45), (3, .int 0), (0, .long 0), (2, .int a2)]) (st2 := [.int 45, .long 0]) jF_152_13 rfl rfl) ?_
  refine Eq.trans (jr_cS (as := [.long 0, .int 45]) (rest := []) (v := some (.int 0)) (hp2 := jh2) (fr2 := 498) (lo2 := 19954) jF_152_15 rfl (show j_cnd 499 19976 498 19954 3 _ _ = true from rfl) ?_) ?_
  · refine Eq.trans (jr_s (pc2 := 1) (lv2 := [(0, .long 0), (2, .int 45)]) (st2 := [.long 0]) jF_101_0 rfl rfl) ?_
    refine Eq.trans (jr_s (pc2 := 2) (lv2 := [(0, .long 0), (2, .int 45)]) (st2 := [.int 45, .long 0]) jF_101_1 rfl rfl) ?_
    refine Eq.trans (jr_s (pc2 := 3) (lv2 := [(0, .long 0), (2, .int 45)]) (st2 := [.long 0]) jF_101_2 rfl rfl) ?_
    refine Eq.trans (jr_s (pc2 := 4) (lv2 := [(0, .long 0), (2, .int 45)]) (st2 := [.long 1, .long 0]) jF_101_3 rfl rfl) ?_
    refine Eq.trans (jr_s (pc2 := 5) (lv2 := [(0, .long 0), (2, .int 45)]) (st2 := [.long 0]) jF_101_4 rfl rfl) ?_
    refine Eq.trans (jr_s (pc2 := 6) (lv2 := [(0, .long 0), (2, .int 45)]) (st2 := [.long 0, .long 0]) jF_101_5 rfl rfl) ?_
    refine Eq.trans (jr_s (pc2 := 7) (lv2 := [(0, .long 0), (2, .int 45)]) (st2 := [.int 0]) jF_101_6 rfl rfl) ?_
    refine Eq.trans (jr_if1 jF_101_7 (by decide +kernel)) ?_
    refine Eq.trans (jr_s (pc2 := 15) (lv2 := [(0, .long 0), (2, .int 45)]) (st2 := [.int 0]) jF_101_14 rfl rfl) ?_
    exact jr_ri jF_101_15 rfl
  refine Eq.trans (jr_if1 jF_152_18 (by decide +kernel)) ?_
  refine Eq.trans (jr_s (pc2 := 35) (lv2 := [(4, .int 46), (3, .int 0), (0, .long 0), (2, .int a2)]) (st2 := []) jF_152_32 rfl rfl) ?_
  refine Eq.trans (jr_s (pc2 := 5) (lv2 := [(4, .int 46), (3, .int 0), (0, .long 0), (2, .int a2)]) (st2 := []) jF_152_35 rfl rfl) ?_
  refine Eq.trans (jr_s (pc2 := 7) (lv2 := [(4, .int 46), (3, .int 0), (0, .long 0), (2, .int a2)]) (st2 := [.int 46]) jF_152_5 rfl rfl) ?_
  refine Eq.trans (jr_s (pc2 := 9) (lv2 := [(4, .int 46), (3, .int 0), (0, .long 0), (2, .int a2)]) (st2 := [.int 64, .int 46]) jF_152_7 rfl rfl) ?_
  refine Eq.trans (jr_ic0 jF_152_9 (by decide +kernel)) ?_
  refine Eq.trans (jr_s (pc2 := 13) (lv2 := [(4, .int 46), (3, .int 0), (0, .long 0), (2, .int a2)]) (st2 := [.long 0]) jF_152_12 rfl rfl) ?_
  refine Eq.trans (jr_s (pc2 := 15) (lv2 := [(4, .int 46), (3, .int 0), (0, .long 0), (2, .int a2)]) (st2 := [.int 46, .long 0]) jF_152_13 rfl rfl) ?_
  refine Eq.trans (jr_cS (as := [.long 0, .int 46]) (rest := []) (v := some (.int 0)) (hp2 := jh2) (fr2 := 498) (lo2 := 19954) jF_152_15 rfl (show j_cnd 499 19976 498 19954 3 _ _ = true from rfl) ?_) ?_
  · refine Eq.trans (jr_s (pc2 := 1) (lv2 := [(0, .long 0), (2, .int 46)]) (st2 := [.long 0]) jF_101_0 rfl rfl) ?_
    refine Eq.trans (jr_s (pc2 := 2) (lv2 := [(0, .long 0), (2, .int 46)]) (st2 := [.int 46, .long 0]) jF_101_1 rfl rfl) ?_
    refine Eq.trans (jr_s (pc2 := 3) (lv2 := [(0, .long 0), (2, .int 46)]) (st2 := [.long 0]) jF_101_2 rfl rfl) ?_
    refine Eq.trans (jr_s (pc2 := 4) (lv2 := [(0, .long 0), (2, .int 46)]) (st2 := [.long 1, .long 0]) jF_101_3 rfl rfl) ?_
    refine Eq.trans (jr_s (pc2 := 5) (lv2 := [(0, .long 0), (2, .int 46)]) (st2 := [.long 0]) jF_101_4 rfl rfl) ?_
    refine Eq.trans (jr_s (pc2 := 6) (lv2 := [(0, .long 0), (2, .int 46)]) (st2 := [.long 0, .long 0]) jF_101_5 rfl rfl) ?_
    refine Eq.trans (jr_s (pc2 := 7) (lv2 := [(0, .long 0), (2, .int 46)]) (st2 := [.int 0]) jF_101_6 rfl rfl) ?_
    refine Eq.trans (jr_if1 jF_101_7 (by decide +kernel)) ?_
    refine Eq.trans (jr_s (pc2 := 15) (lv2 := [(0, .long 0), (2, .int 46)]) (st2 := [.int 0]) jF_101_14 rfl rfl) ?_
    exact jr_ri jF_101_15 rfl
  refine Eq.trans (jr_if1 jF_152_18 (by decide +kernel)) ?_
  refine Eq.trans (jr_s (pc2 := 35) (lv2 := [(4, .int 47), (3, .int 0), (0, .long 0), (2, .int a2)]) (st2 := []) jF_152_32 rfl rfl) ?_
  refine Eq.trans (jr_s (pc2 := 5) (lv2 := [(4, .int 47), (3, .int 0), (0, .long 0), (2, .int a2)]) (st2 := []) jF_152_35 rfl rfl) ?_
  refine Eq.trans (jr_s (pc2 := 7) (lv2 := [(4, .int 47), (3, .int 0), (0, .long 0), (2, .int a2)]) (st2 := [.int 47]) jF_152_5 rfl rfl) ?_
  refine Eq.trans (jr_s (pc2 := 9) (lv2 := [(4, .int 47), (3, .int 0), (0, .long 0), (2, .int a2)]) (st2 := [.int 64, .int 47]) jF_152_7 rfl rfl) ?_
  refine Eq.trans (jr_ic0 jF_152_9 (by decide +kernel)) ?_
  refine Eq.trans (jr_s (pc2 := 13) (lv2 := [(4, .int 47), (3, .int 0), (0, .long 0), (2, .int a2)]) (st2 := [.long 0]) jF_152_12 rfl rfl) ?_
  refine Eq.trans (jr_s (pc2 := 15) (lv2 := [(4, .int 47), (3, .int 0), (0, .long 0), (2, .int a2)]) (st2 := [.int 47, .long 0]) jF_152_13 rfl rfl) ?_
  refine Eq.trans (jr_cS (as := [.long 0, .int 47]) (rest := []) (v := some (.int 0)) (hp2 := jh2) (fr2 := 498) (lo2 := 19954) jF_152_15 rfl (show j_cnd 499 19976 498 19954 3 _ _ = true from rfl) ?_) ?_
  · refine Eq.trans (jr_s (pc2 := 1) (lv2 := [(0, .long 0), (2, .int 47)]) (st2 := [.long 0]) jF_101_0 rfl rfl) ?_
    refine Eq.trans (jr_s (pc2 := 2) (lv2 := [(0, .long 0), (2, .int 47)]) (st2 := [.int 47, .long 0]) jF_101_1 rfl rfl) ?_
    refine Eq.trans (jr_s (pc2 := 3) (lv2 := [(0, .long 0), (2, .int 47)]) (st2 := [.long 0]) jF_101_2 rfl rfl) ?_
    refine Eq.trans (jr_s (pc2 := 4) (lv2 := [(0, .long 0), (2, .int 47)]) (st2 := [.long 1, .long 0]) jF_101_3 rfl rfl) ?_
    refine Eq.trans (jr_s (pc2 := 5) (lv2 := [(0, .long 0), (2, .int 47)]) (st2 := [.long 0]) jF_101_4 rfl rfl) ?_
    refine Eq.trans (jr_s (pc2 := 6) (lv2 := [(0, .long 0), (2, .int 47)]) (st2 := [.long 0, .long 0]) jF_101_5 rfl rfl) ?_
    refine Eq.trans (jr_s (pc2 := 7) (lv2 := [(0, .long 0), (2, .int 47)]) (st2 := [.int 0]) jF_101_6 rfl rfl) ?_
    refine Eq.trans (jr_if1 jF_101_7 (by decide +kernel)) ?_
    refine Eq.trans (jr_s (pc2 := 15) (lv2 := [(0, .long 0), (2, .int 47)]) (st2 := [.int 0]) jF_101_14 rfl rfl) ?_
    exact jr_ri jF_101_15 rfl
  refine Eq.trans (jr_if1 jF_152_18 (by decide +kernel)) ?_
  refine Eq.trans (jr_s (pc2 := 35) (lv2 := [(4, .int 48), (3, .int 0), (0, .long 0), (2, .int a2)]) (st2 := []) jF_152_32 rfl rfl) ?_
  refine Eq.trans (jr_s (pc2 := 5) (lv2 := [(4, .int 48), (3, .int 0), (0, .long 0), (2, .int a2)]) (st2 := []) jF_152_35 rfl rfl) ?_
  refine Eq.trans (jr_s (pc2 := 7) (lv2 := [(4, .int 48), (3, .int 0), (0, .long 0), (2, .int a2)]) (st2 := [.int 48]) jF_152_5 rfl rfl) ?_
  refine Eq.trans (jr_s (pc2 := 9) (lv2 := [(4, .int 48), (3, .int 0), (0, .long 0), (2, .int a2)]) (st2 := [.int 64, .int 48]) jF_152_7 rfl rfl) ?_
  refine Eq.trans (jr_ic0 jF_152_9 (by decide +kernel)) ?_
  refine Eq.trans (jr_s (pc2 := 13) (lv2 := [(4, .int 48), (3, .int 0), (0, .long 0), (2, .int a2)]) (st2 := [.long 0]) jF_152_12 rfl rfl) ?_
  refine Eq.trans (jr_s (pc2 := 15) (lv2 := [(4, .int 48), (3, .int 0), (0, .long 0), (2, .int a2)]) (st2 := [.int 48, .long 0]) jF_152_13 rfl rfl) ?_
  refine Eq.trans (jr_cS (as := [.long 0, .int 48]) (rest := []) (v := some (.int 0)) (hp2 := jh2) (fr2 := 498) (lo2 := 19954) jF_152_15 rfl (show j_cnd 499 19976 498 19954 3 _ _ = true from rfl) ?_) ?_
  · refine Eq.trans (jr_s (pc2 := 1) (lv2 := [(0, .long 0), (2, .int 48)]) (st2 := [.long 0]) jF_101_0 rfl rfl) ?_
    refine Eq.trans (jr_s (pc2 := 2) (lv2 := [(0, .long 0), (2, .int 48)]) (st2 := [.int 48, .long 0]) jF_101_1 rfl rfl) ?_
    refine Eq.trans (jr_s (pc2 := 3) (lv2 := [(0, .long 0), (2, .int 48)]) (st2 := [.long 0]) jF_101_2 rfl rfl) ?_
    refine Eq.trans (jr_s (pc2 := 4) (lv2 := [(0, .long 0), (2, .int 48)]) (st2 := [.long 1, .long 0]) jF_101_3 rfl rfl) ?_
    refine Eq.trans (jr_s (pc2 := 5) (lv2 := [(0, .long 0), (2, .int 48)]) (st2 := [.long 0]) jF_101_4 rfl rfl) ?_
    refine Eq.trans (jr_s (pc2 := 6) (lv2 := [(0, .long 0), (2, .int 48)]) (st2 := [.long 0, .long 0]) jF_101_5 rfl rfl) ?_
    refine Eq.trans (jr_s (pc2 := 7) (lv2 := [(0, .long 0), (2, .int 48)]) (st2 := [.int 0]) jF_101_6 rfl rfl) ?_
    refine Eq.trans (jr_if1 jF_101_7 (by decide +kernel)) ?_
    refine Eq.trans (jr_s (pc2 := 15) (lv2 := [(0, .long 0), (2, .int 48)]) (st2 := [.int 0]) jF_101_14 rfl rfl) ?_
    exact jr_ri jF_101_15 rfl
  refine Eq.trans (jr_if1 jF_152_18 (by decide +kernel)) ?_
  refine Eq.trans (jr_s (pc2 := 35) (lv2 := [(4, .int 49), (3, .int 0), (0, .long 0), (2, .int a2)]) (st2 := []) jF_152_32 rfl rfl) ?_
  refine Eq.trans (jr_s (pc2 := 5) (lv2 := [(4, .int 49), (3, .int 0), (0, .long 0), (2, .int a2)]) (st2 := []) jF_152_35 rfl rfl) ?_
  refine Eq.trans (jr_s (pc2 := 7) (lv2 := [(4, .int 49), (3, .int 0), (0, .long 0), (2, .int a2)]) (st2 := [.int 49]) jF_152_5 rfl rfl) ?_
  refine Eq.trans (jr_s (pc2 := 9) (lv2 := [(4, .int 49), (3, .int 0), (0, .long 0), (2, .int a2)]) (st2 := [.int 64, .int 49]) jF_152_7 rfl rfl) ?_
  refine Eq.trans (jr_ic0 jF_152_9 (by decide +kernel)) ?_
  refine Eq.trans (jr_s (pc2 := 13) (lv2 := [(4, .int 49), (3, .int 0), (0, .long 0), (2, .int a2)]) (st2 := [.long 0]) jF_152_12 rfl rfl) ?_
  refine Eq.trans (jr_s (pc2 := 15) (lv2 := [(4, .int 49), (3, .int 0), (0, .long 0), (2, .int a2)]) (st2 := [.int 49, .long 0]) jF_152_13 rfl rfl) ?_
  refine Eq.trans (jr_cS (as := [.long 0, .int 49]) (rest := []) (v := some (.int 0)) (hp2 := jh2) (fr2 := 498) (lo2 := 19954) jF_152_15 rfl (show j_cnd 499 19976 498 19954 3 _ _ = true from rfl) ?_) ?_
  · refine Eq.trans (jr_s (pc2 := 1) (lv2 := [(0, .long 0), (2, .int 49)]) (st2 := [.long 0]) jF_101_0 rfl rfl) ?_
    refine Eq.trans (jr_s (pc2 := 2) (lv2 := [(0, .long 0), (2, .int 49)]) (st2 := [.int 49, .long 0]) jF_101_1 rfl rfl) ?_
    refine Eq.trans (jr_s (pc2 := 3) (lv2 := [(0, .long 0), (2, .int 49)]) (st2 := [.long 0]) jF_101_2 rfl rfl) ?_
    refine Eq.trans (jr_s (pc2 := 4) (lv2 := [(0, .long 0), (2, .int 49)]) (st2 := [.long 1, .long 0]) jF_101_3 rfl rfl) ?_
    refine Eq.trans (jr_s (pc2 := 5) (lv2 := [(0, .long 0), (2, .int 49)]) (st2 := [.long 0]) jF_101_4 rfl rfl) ?_
    refine Eq.trans (jr_s (pc2 := 6) (lv2 := [(0, .long 0), (2, .int 49)]) (st2 := [.long 0, .long 0]) jF_101_5 rfl rfl) ?_
    refine Eq.trans (jr_s (pc2 := 7) (lv2 := [(0, .long 0), (2, .int 49)]) (st2 := [.int 0]) jF_101_6 rfl rfl) ?_
    refine Eq.trans (jr_if1 jF_101_7 (by decide +kernel)) ?_
    refine Eq.trans (jr_s (pc2 := 15) (lv2 := [(0, .long 0), (2, .int 49)]) (st2 := [.int 0]) jF_101_14 rfl rfl) ?_
    exact jr_ri jF_101_15 rfl
  refine Eq.trans (jr_if1 jF_152_18 (by decide +kernel)) ?_
  refine Eq.trans (jr_s (pc2 := 35) (lv2 := [(4, .int 50), (3, .int 0), (0, .long 0), (2, .int a2)]) (st2 := []) jF_152_32 rfl rfl) ?_
  refine Eq.trans (jr_s (pc2 := 5) (lv2 := [(4, .int 50), (3, .int 0), (0, .long 0), (2, .int a2)]) (st2 := []) jF_152_35 rfl rfl) ?_
  refine Eq.trans (jr_s (pc2 := 7) (lv2 := [(4, .int 50), (3, .int 0), (0, .long 0), (2, .int a2)]) (st2 := [.int 50]) jF_152_5 rfl rfl) ?_
  refine Eq.trans (jr_s (pc2 := 9) (lv2 := [(4, .int 50), (3, .int 0), (0, .long 0), (2, .int a2)]) (st2 := [.int 64, .int 50]) jF_152_7 rfl rfl) ?_
  refine Eq.trans (jr_ic0 jF_152_9 (by decide +kernel)) ?_
  refine Eq.trans (jr_s (pc2 := 13) (lv2 := [(4, .int 50), (3, .int 0), (0, .long 0), (2, .int a2)]) (st2 := [.long 0]) jF_152_12 rfl rfl) ?_
  refine Eq.trans (jr_s (pc2 := 15) (lv2 := [(4, .int 50), (3, .int 0), (0, .long 0), (2, .int a2)]) (st2 := [.int 50, .long 0]) jF_152_13 rfl rfl) ?_
  refine Eq.trans (jr_cS (as := [.long 0, .int 50]) (rest := []) (v := some (.int 0)) (hp2 := jh2) (fr2 := 498) (lo2 := 19954) jF_152_15 rfl (show j_cnd 499 19976 498 19954 3 _ _ = true from rfl) ?_) ?_
  · refine Eq.trans (jr_s (pc2 := 1) (lv2 := [(0, .long 0), (2, .int 50)]) (st2 := [.long 0]) jF_101_0 rfl rfl) ?_
    refine Eq.trans (jr_s (pc2 := 2) (lv2 := [(0, .long 0), (2, .int 50)]) (st2 := [.int 50, .long 0]) jF_101_1 rfl rfl) ?_
    refine Eq.trans (jr_s (pc2 := 3) (lv2 := [(0, .long 0), (2, .int 50)]) (st2 := [.long 0]) jF_101_2 rfl rfl) ?_
    refine Eq.trans (jr_s (pc2 := 4) (lv2 := [(0, .long 0), (2, .int 50)]) (st2 := [.long 1, .long 0]) jF_101_3 rfl rfl) ?_
    refine Eq.trans (jr_s (pc2 := 5) (lv2 := [(0, .long 0), (2, .int 50)]) (st2 := [.long 0]) jF_101_4 rfl rfl) ?_
    refine Eq.trans (jr_s (pc2 := 6) (lv2 := [(0, .long 0), (2, .int 50)]) (st2 := [.long 0, .long 0]) jF_101_5 rfl rfl) ?_
    refine Eq.trans (jr_s (pc2 := 7) (lv2 := [(0, .long 0), (2, .int 50)]) (st2 := [.int 0]) jF_101_6 rfl rfl) ?_
    refine Eq.trans (jr_if1 jF_101_7 (by decide +kernel)) ?_
    refine Eq.trans (jr_s (pc2 := 15) (lv2 := [(0, .long 0), (2, .int 50)]) (st2 := [.int 0]) jF_101_14 rfl rfl) ?_
    exact jr_ri jF_101_15 rfl
  refine Eq.trans (jr_if1 jF_152_18 (by decide +kernel)) ?_
  refine Eq.trans (jr_s (pc2 := 35) (lv2 := [(4, .int 51), (3, .int 0), (0, .long 0), (2, .int a2)]) (st2 := []) jF_152_32 rfl rfl) ?_
  refine Eq.trans (jr_s (pc2 := 5) (lv2 := [(4, .int 51), (3, .int 0), (0, .long 0), (2, .int a2)]) (st2 := []) jF_152_35 rfl rfl) ?_
  refine Eq.trans (jr_s (pc2 := 7) (lv2 := [(4, .int 51), (3, .int 0), (0, .long 0), (2, .int a2)]) (st2 := [.int 51]) jF_152_5 rfl rfl) ?_
  refine Eq.trans (jr_s (pc2 := 9) (lv2 := [(4, .int 51), (3, .int 0), (0, .long 0), (2, .int a2)]) (st2 := [.int 64, .int 51]) jF_152_7 rfl rfl) ?_
  refine Eq.trans (jr_ic0 jF_152_9 (by decide +kernel)) ?_
  refine Eq.trans (jr_s (pc2 := 13) (lv2 := [(4, .int 51), (3, .int 0), (0, .long 0), (2, .int a2)]) (st2 := [.long 0]) jF_152_12 rfl rfl) ?_
  refine Eq.trans (jr_s (pc2 := 15) (lv2 := [(4, .int 51), (3, .int 0), (0, .long 0), (2, .int a2)]) (st2 := [.int 51, .long 0]) jF_152_13 rfl rfl) ?_
  refine Eq.trans (jr_cS (as := [.long 0, .int 51]) (rest := []) (v := some (.int 0)) (hp2 := jh2) (fr2 := 498) (lo2 := 19954) jF_152_15 rfl (show j_cnd 499 19976 498 19954 3 _ _ = true from rfl) ?_) ?_
  · refine Eq.trans (jr_s (pc2 := 1) (lv2 := [(0, .long 0), (2, .int 51)]) (st2 := [.long 0]) jF_101_0 rfl rfl) ?_
    refine Eq.trans (jr_s (pc2 := 2) (lv2 := [(0, .long 0), (2, .int 51)]) (st2 := [.int 51, .long 0]) jF_101_1 rfl rfl) ?_
    refine Eq.trans (jr_s (pc2 := 3) (lv2 := [(0, .long 0), (2, .int 51)]) (st2 := [.long 0]) jF_101_2 rfl rfl) ?_
    refine Eq.trans (jr_s (pc2 := 4) (lv2 := [(0, .long 0), (2, .int 51)]) (st2 := [.long 1, .long 0]) jF_101_3 rfl rfl) ?_
    refine Eq.trans (jr_s (pc2 := 5) (lv2 := [(0, .long 0), (2, .int 51)]) (st2 := [.long 0]) jF_101_4 rfl rfl) ?_
    refine Eq.trans (jr_s (pc2 := 6) (lv2 := [(0, .long 0), (2, .int 51)]) (st2 := [.long 0, .long 0]) jF_101_5 rfl rfl) ?_
    refine Eq.trans (jr_s (pc2 := 7) (lv2 := [(0, .long 0), (2, .int 51)]) (st2 := [.int 0]) jF_101_6 rfl rfl) ?_
    refine Eq.trans (jr_if1 jF_101_7 (by decide +kernel)) ?_
    refine Eq.trans (jr_s (pc2 := 15) (lv2 := [(0, .long 0), (2, .int 51)]) (st2 := [.int 0]) jF_101_14 rfl rfl) ?_
    exact jr_ri jF_101_15 rfl
  refine Eq.trans (jr_if1 jF_152_18 (by decide +kernel)) ?_
  refine Eq.trans (jr_s (pc2 := 35) (lv2 := [(4, .int 52), (3, .int 0), (0, .long 0), (2, .int a2)]) (st2 := []) jF_152_32 rfl rfl) ?_
  refine Eq.trans (jr_s (pc2 := 5) (lv2 := [(4, .int 52), (3, .int 0), (0, .long 0), (2, .int a2)]) (st2 := []) jF_152_35 rfl rfl) ?_
  refine Eq.trans (jr_s (pc2 := 7) (lv2 := [(4, .int 52), (3, .int 0), (0, .long 0), (2, .int a2)]) (st2 := [.int 52]) jF_152_5 rfl rfl) ?_
  refine Eq.trans (jr_s (pc2 := 9) (lv2 := [(4, .int 52), (3, .int 0), (0, .long 0), (2, .int a2)]) (st2 := [.int 64, .int 52]) jF_152_7 rfl rfl) ?_
  refine Eq.trans (jr_ic0 jF_152_9 (by decide +kernel)) ?_
  refine Eq.trans (jr_s (pc2 := 13) (lv2 := [(4, .int 52), (3, .int 0), (0, .long 0), (2, .int a2)]) (st2 := [.long 0]) jF_152_12 rfl rfl) ?_
  refine Eq.trans (jr_s (pc2 := 15) (lv2 := [(4, .int 52), (3, .int 0), (0, .long 0), (2, .int a2)]) (st2 := [.int 52, .long 0]) jF_152_13 rfl rfl) ?_
  refine Eq.trans (jr_cS (as := [.long 0, .int 52]) (rest := []) (v := some (.int 0)) (hp2 := jh2) (fr2 := 498) (lo2 := 19954) jF_152_15 rfl (show j_cnd 499 19976 498 19954 3 _ _ = true from rfl) ?_) ?_
  · refine Eq.trans (jr_s (pc2 := 1) (lv2 := [(0, .long 0), (2, .int 52)]) (st2 := [.long 0]) jF_101_0 rfl rfl) ?_
    refine Eq.trans (jr_s (pc2 := 2) (lv2 := [(0, .long 0), (2, .int 52)]) (st2 := [.int 52, .long 0]) jF_101_1 rfl rfl) ?_
    refine Eq.trans (jr_s (pc2 := 3) (lv2 := [(0, .long 0), (2, .int 52)]) (st2 := [.long 0]) jF_101_2 rfl rfl) ?_
    refine Eq.trans (jr_s (pc2 := 4) (lv2 := [(0, .long 0), (2, .int 52)]) (st2 := [.long 1, .long 0]) jF_101_3 rfl rfl) ?_
    refine Eq.trans (jr_s (pc2 := 5) (lv2 := [(0, .long 0), (2, .int 52)]) (st2 := [.long 0]) jF_101_4 rfl rfl) ?_
    refine Eq.trans (jr_s (pc2 := 6) (lv2 := [(0, .long 0), (2, .int 52)]) (st2 := [.long 0, .long 0]) jF_101_5 rfl rfl) ?_
    refine Eq.trans (jr_s (pc2 := 7) (lv2 := [(0, .long 0), (2, .int 52)]) (st2 := [.int 0]) jF_101_6 rfl rfl) ?_
    refine Eq.trans (jr_if1 jF_101_7 (by decide +kernel)) ?_
    refine Eq.trans (jr_s (pc2 := 15) (lv2 := [(0, .long 0), (2, .int 52)]) (st2 := [.int 0]) jF_101_14 rfl rfl) ?_
    exact jr_ri jF_101_15 rfl
  refine Eq.trans (jr_if1 jF_152_18 (by decide +kernel)) ?_
  refine Eq.trans (jr_s (pc2 := 35) (lv2 := [(4, .int 53), (3, .int 0), (0, .long 0), (2, .int a2)]) (st2 := []) jF_152_32 rfl rfl) ?_
  refine Eq.trans (jr_s (pc2 := 5) (lv2 := [(4, .int 53), (3, .int 0), (0, .long 0), (2, .int a2)]) (st2 := []) jF_152_35 rfl rfl) ?_
  refine Eq.trans (jr_s (pc2 := 7) (lv2 := [(4, .int 53), (3, .int 0), (0, .long 0), (2, .int a2)]) (st2 := [.int 53]) jF_152_5 rfl rfl) ?_
  refine Eq.trans (jr_s (pc2 := 9) (lv2 := [(4, .int 53), (3, .int 0), (0, .long 0), (2, .int a2)]) (st2 := [.int 64, .int 53]) jF_152_7 rfl rfl) ?_
  refine Eq.trans (jr_ic0 jF_152_9 (by decide +kernel)) ?_
  refine Eq.trans (jr_s (pc2 := 13) (lv2 := [(4, .int 53), (3, .int 0), (0, .long 0), (2, .int a2)]) (st2 := [.long 0]) jF_152_12 rfl rfl) ?_
  refine Eq.trans (jr_s (pc2 := 15) (lv2 := [(4, .int 53), (3, .int 0), (0, .long 0), (2, .int a2)]) (st2 := [.int 53, .long 0]) jF_152_13 rfl rfl) ?_
  refine Eq.trans (jr_cS (as := [.long 0, .int 53]) (rest := []) (v := some (.int 0)) (hp2 := jh2) (fr2 := 498) (lo2 := 19954) jF_152_15 rfl (show j_cnd 499 19976 498 19954 3 _ _ = true from rfl) ?_) ?_
  · refine Eq.trans (jr_s (pc2 := 1) (lv2 := [(0, .long 0), (2, .int 53)]) (st2 := [.long 0]) jF_101_0 rfl rfl) ?_
    refine Eq.trans (jr_s (pc2 := 2) (lv2 := [(0, .long 0), (2, .int 53)]) (st2 := [.int 53, .long 0]) jF_101_1 rfl rfl) ?_
    refine Eq.trans (jr_s (pc2 := 3) (lv2 := [(0, .long 0), (2, .int 53)]) (st2 := [.long 0]) jF_101_2 rfl rfl) ?_
    refine Eq.trans (jr_s (pc2 := 4) (lv2 := [(0, .long 0), (2, .int 53)]) (st2 := [.long 1, .long 0]) jF_101_3 rfl rfl) ?_
    refine Eq.trans (jr_s (pc2 := 5) (lv2 := [(0, .long 0), (2, .int 53)]) (st2 := [.long 0]) jF_101_4 rfl rfl) ?_
    refine Eq.trans (jr_s (pc2 := 6) (lv2 := [(0, .long 0), (2, .int 53)]) (st2 := [.long 0, .long 0]) jF_101_5 rfl rfl) ?_
    refine Eq.trans (jr_s (pc2 := 7) (lv2 := [(0, .long 0), (2, .int 53)]) (st2 := [.int 0]) jF_101_6 rfl rfl) ?_
    refine Eq.trans (jr_if1 jF_101_7 (by decide +kernel)) ?_
    refine Eq.trans (jr_s (pc2 := 15) (lv2 := [(0, .long 0), (2, .int 53)]) (st2 := [.int 0]) jF_101_14 rfl rfl) ?_
    exact jr_ri jF_101_15 rfl
  refine Eq.trans (jr_if1 jF_152_18 (by decide +kernel)) ?_
  refine Eq.trans (jr_s (pc2 := 35) (lv2 := [(4, .int 54), (3, .int 0), (0, .long 0), (2, .int a2)]) (st2 := []) jF_152_32 rfl rfl) ?_
  refine Eq.trans (jr_s (pc2 := 5) (lv2 := [(4, .int 54), (3, .int 0), (0, .long 0), (2, .int a2)]) (st2 := []) jF_152_35 rfl rfl) ?_
  refine Eq.trans (jr_s (pc2 := 7) (lv2 := [(4, .int 54), (3, .int 0), (0, .long 0), (2, .int a2)]) (st2 := [.int 54]) jF_152_5 rfl rfl) ?_
  refine Eq.trans (jr_s (pc2 := 9) (lv2 := [(4, .int 54), (3, .int 0), (0, .long 0), (2, .int a2)]) (st2 := [.int 64, .int 54]) jF_152_7 rfl rfl) ?_
  refine Eq.trans (jr_ic0 jF_152_9 (by decide +kernel)) ?_
  refine Eq.trans (jr_s (pc2 := 13) (lv2 := [(4, .int 54), (3, .int 0), (0, .long 0), (2, .int a2)]) (st2 := [.long 0]) jF_152_12 rfl rfl) ?_
  refine Eq.trans (jr_s (pc2 := 15) (lv2 := [(4, .int 54), (3, .int 0), (0, .long 0), (2, .int a2)]) (st2 := [.int 54, .long 0]) jF_152_13 rfl rfl) ?_
  refine Eq.trans (jr_cS (as := [.long 0, .int 54]) (rest := []) (v := some (.int 0)) (hp2 := jh2) (fr2 := 498) (lo2 := 19954) jF_152_15 rfl (show j_cnd 499 19976 498 19954 3 _ _ = true from rfl) ?_) ?_
  · refine Eq.trans (jr_s (pc2 := 1) (lv2 := [(0, .long 0), (2, .int 54)]) (st2 := [.long 0]) jF_101_0 rfl rfl) ?_
    refine Eq.trans (jr_s (pc2 := 2) (lv2 := [(0, .long 0), (2, .int 54)]) (st2 := [.int 54, .long 0]) jF_101_1 rfl rfl) ?_
    refine Eq.trans (jr_s (pc2 := 3) (lv2 := [(0, .long 0), (2, .int 54)]) (st2 := [.long 0]) jF_101_2 rfl rfl) ?_
    refine Eq.trans (jr_s (pc2 := 4) (lv2 := [(0, .long 0), (2, .int 54)]) (st2 := [.long 1, .long 0]) jF_101_3 rfl rfl) ?_
    refine Eq.trans (jr_s (pc2 := 5) (lv2 := [(0, .long 0), (2, .int 54)]) (st2 := [.long 0]) jF_101_4 rfl rfl) ?_
    refine Eq.trans (jr_s (pc2 := 6) (lv2 := [(0, .long 0), (2, .int 54)]) (st2 := [.long 0, .long 0]) jF_101_5 rfl rfl) ?_
    refine Eq.trans (jr_s (pc2 := 7) (lv2 := [(0, .long 0), (2, .int 54)]) (st2 := [.int 0]) jF_101_6 rfl rfl) ?_
    refine Eq.trans (jr_if1 jF_101_7 (by decide +kernel)) ?_
    refine Eq.trans (jr_s (pc2 := 15) (lv2 := [(0, .long 0), (2, .int 54)]) (st2 := [.int 0]) jF_101_14 rfl rfl) ?_
    exact jr_ri jF_101_15 rfl
  refine Eq.trans (jr_if1 jF_152_18 (by decide +kernel)) ?_
  refine Eq.trans (jr_s (pc2 := 35) (lv2 := [(4, .int 55), (3, .int 0), (0, .long 0), (2, .int a2)]) (st2 := []) jF_152_32 rfl rfl) ?_
  refine Eq.trans (jr_s (pc2 := 5) (lv2 := [(4, .int 55), (3, .int 0), (0, .long 0), (2, .int a2)]) (st2 := []) jF_152_35 rfl rfl) ?_
  refine Eq.trans (jr_s (pc2 := 7) (lv2 := [(4, .int 55), (3, .int 0), (0, .long 0), (2, .int a2)]) (st2 := [.int 55]) jF_152_5 rfl rfl) ?_
  refine Eq.trans (jr_s (pc2 := 9) (lv2 := [(4, .int 55), (3, .int 0), (0, .long 0), (2, .int a2)]) (st2 := [.int 64, .int 55]) jF_152_7 rfl rfl) ?_
  refine Eq.trans (jr_ic0 jF_152_9 (by decide +kernel)) ?_
  refine Eq.trans (jr_s (pc2 := 13) (lv2 := [(4, .int 55), (3, .int 0), (0, .long 0), (2, .int a2)]) (st2 := [.long 0]) jF_152_12 rfl rfl) ?_
  refine Eq.trans (jr_s (pc2 := 15) (lv2 := [(4, .int 55), (3, .int 0), (0, .long 0), (2, .int a2)]) (st2 := [.int 55, .long 0]) jF_152_13 rfl rfl) ?_
  refine Eq.trans (jr_cS (as := [.long 0, .int 55]) (rest := []) (v := some (.int 0)) (hp2 := jh2) (fr2 := 498) (lo2 := 19954) jF_152_15 rfl (show j_cnd 499 19976 498 19954 3 _ _ = true from rfl) ?_) ?_
  · refine Eq.trans (jr_s (pc2 := 1) (lv2 := [(0, .long 0), (2, .int 55)]) (st2 := [.long 0]) jF_101_0 rfl rfl) ?_
    refine Eq.trans (jr_s (pc2 := 2) (lv2 := [(0, .long 0), (2, .int 55)]) (st2 := [.int 55, .long 0]) jF_101_1 rfl rfl) ?_
    refine Eq.trans (jr_s (pc2 := 3) (lv2 := [(0, .long 0), (2, .int 55)]) (st2 := [.long 0]) jF_101_2 rfl rfl) ?_
    refine Eq.trans (jr_s (pc2 := 4) (lv2 := [(0, .long 0), (2, .int 55)]) (st2 := [.long 1, .long 0]) jF_101_3 rfl rfl) ?_
    refine Eq.trans (jr_s (pc2 := 5) (lv2 := [(0, .long 0), (2, .int 55)]) (st2 := [.long 0]) jF_101_4 rfl rfl) ?_
    refine Eq.trans (jr_s (pc2 := 6) (lv2 := [(0, .long 0), (2, .int 55)]) (st2 := [.long 0, .long 0]) jF_101_5 rfl rfl) ?_
    refine Eq.trans (jr_s (pc2 := 7) (lv2 := [(0, .long 0), (2, .int 55)]) (st2 := [.int 0]) jF_101_6 rfl rfl) ?_
    refine Eq.trans (jr_if1 jF_101_7 (by decide +kernel)) ?_
    refine Eq.trans (jr_s (pc2 := 15) (lv2 := [(0, .long 0), (2, .int 55)]) (st2 := [.int 0]) jF_101_14 rfl rfl) ?_
    exact jr_ri jF_101_15 rfl
  refine Eq.trans (jr_if1 jF_152_18 (by decide +kernel)) ?_
  refine Eq.trans (jr_s (pc2 := 35) (lv2 := [(4, .int 56), (3, .int 0), (0, .long 0), (2, .int a2)]) (st2 := []) jF_152_32 rfl rfl) ?_
  refine Eq.trans (jr_s (pc2 := 5) (lv2 := [(4, .int 56), (3, .int 0), (0, .long 0), (2, .int a2)]) (st2 := []) jF_152_35 rfl rfl) ?_
  refine Eq.trans (jr_s (pc2 := 7) (lv2 := [(4, .int 56), (3, .int 0), (0, .long 0), (2, .int a2)]) (st2 := [.int 56]) jF_152_5 rfl rfl) ?_
  refine Eq.trans (jr_s (pc2 := 9) (lv2 := [(4, .int 56), (3, .int 0), (0, .long 0), (2, .int a2)]) (st2 := [.int 64, .int 56]) jF_152_7 rfl rfl) ?_
  refine Eq.trans (jr_ic0 jF_152_9 (by decide +kernel)) ?_
  refine Eq.trans (jr_s (pc2 := 13) (lv2 := [(4, .int 56), (3, .int 0), (0, .long 0), (2, .int a2)]) (st2 := [.long 0]) jF_152_12 rfl rfl) ?_
  refine Eq.trans (jr_s (pc2 := 15) (lv2 := [(4, .int 56), (3, .int 0), (0, .long 0), (2, .int a2)]) (st2 := [.int 56, .long 0]) jF_152_13 rfl rfl) ?_
  refine Eq.trans (jr_cS (as := [.long 0, .int 56]) (rest := []) (v := some (.int 0)) (hp2 := jh2) (fr2 := 498) (lo2 := 19954) jF_152_15 rfl (show j_cnd 499 19976 498 19954 3 _ _ = true from rfl) ?_) ?_
  · refine Eq.trans (jr_s (pc2 := 1) (lv2 := [(0, .long 0), (2, .int 56)]) (st2 := [.long 0]) jF_101_0 rfl rfl) ?_
    refine Eq.trans (jr_s (pc2 := 2) (lv2 := [(0, .long 0), (2, .int 56)]) (st2 := [.int 56, .long 0]) jF_101_1 rfl rfl) ?_
    refine Eq.trans (jr_s (pc2 := 3) (lv2 := [(0, .long 0), (2, .int 56)]) (st2 := [.long 0]) jF_101_2 rfl rfl) ?_
    refine Eq.trans (jr_s (pc2 := 4) (lv2 := [(0, .long 0), (2, .int 56)]) (st2 := [.long 1, .long 0]) jF_101_3 rfl rfl) ?_
    refine Eq.trans (jr_s (pc2 := 5) (lv2 := [(0, .long 0), (2, .int 56)]) (st2 := [.long 0]) jF_101_4 rfl rfl) ?_
    refine Eq.trans (jr_s (pc2 := 6) (lv2 := [(0, .long 0), (2, .int 56)]) (st2 := [.long 0, .long 0]) jF_101_5 rfl rfl) ?_
    refine Eq.trans (jr_s (pc2 := 7) (lv2 := [(0, .long 0), (2, .int 56)]) (st2 := [.int 0]) jF_101_6 rfl rfl) ?_
    refine Eq.trans (jr_if1 jF_101_7 (by decide +kernel)) ?_
    refine Eq.trans (jr_s (pc2 := 15) (lv2 := [(0, .long 0), (2, .int 56)]) (st2 := [.int 0]) jF_101_14 rfl rfl) ?_
    exact jr_ri jF_101_15 rfl
  refine Eq.trans (jr_if1 jF_152_18 (by decide +kernel)) ?_
  refine Eq.trans (jr_s (pc2 := 35) (lv2 := [(4, .int 57), (3, .int 0), (0, .long 0), (2, .int a2)]) (st2 := []) jF_152_32 rfl rfl) ?_
  refine Eq.trans (jr_s (pc2 := 5) (lv2 := [(4, .int 57), (3, .int 0), (0, .long 0), (2, .int a2)]) (st2 := []) jF_152_35 rfl rfl) ?_
  refine Eq.trans (jr_s (pc2 := 7) (lv2 := [(4, .int 57), (3, .int 0), (0, .long 0), (2, .int a2)]) (st2 := [.int 57]) jF_152_5 rfl rfl) ?_
  refine Eq.trans (jr_s (pc2 := 9) (lv2 := [(4, .int 57), (3, .int 0), (0, .long 0), (2, .int a2)]) (st2 := [.int 64, .int 57]) jF_152_7 rfl rfl) ?_
  refine Eq.trans (jr_ic0 jF_152_9 (by decide +kernel)) ?_
  refine Eq.trans (jr_s (pc2 := 13) (lv2 := [(4, .int 57), (3, .int 0), (0, .long 0), (2, .int a2)]) (st2 := [.long 0]) jF_152_12 rfl rfl) ?_
  refine Eq.trans (jr_s (pc2 := 15) (lv2 := [(4, .int 57), (3, .int 0), (0, .long 0), (2, .int a2)]) (st2 := [.int 57, .long 0]) jF_152_13 rfl rfl) ?_
  refine Eq.trans (jr_cS (as := [.long 0, .int 57]) (rest := []) (v := some (.int 0)) (hp2 := jh2) (fr2 := 498) (lo2 := 19954) jF_152_15 rfl (show j_cnd 499 19976 498 19954 3 _ _ = true from rfl) ?_) ?_
  · refine Eq.trans (jr_s (pc2 := 1) (lv2 := [(0, .long 0), (2, .int 57)]) (st2 := [.long 0]) jF_101_0 rfl rfl) ?_
    refine Eq.trans (jr_s (pc2 := 2) (lv2 := [(0, .long 0), (2, .int 57)]) (st2 := [.int 57, .long 0]) jF_101_1 rfl rfl) ?_
    refine Eq.trans (jr_s (pc2 := 3) (lv2 := [(0, .long 0), (2, .int 57)]) (st2 := [.long 0]) jF_101_2 rfl rfl) ?_
    refine Eq.trans (jr_s (pc2 := 4) (lv2 := [(0, .long 0), (2, .int 57)]) (st2 := [.long 1, .long 0]) jF_101_3 rfl rfl) ?_
    refine Eq.trans (jr_s (pc2 := 5) (lv2 := [(0, .long 0), (2, .int 57)]) (st2 := [.long 0]) jF_101_4 rfl rfl) ?_
    refine Eq.trans (jr_s (pc2 := 6) (lv2 := [(0, .long 0), (2, .int 57)]) (st2 := [.long 0, .long 0]) jF_101_5 rfl rfl) ?_
    refine Eq.trans (jr_s (pc2 := 7) (lv2 := [(0, .long 0), (2, .int 57)]) (st2 := [.int 0]) jF_101_6 rfl rfl) ?_
    refine Eq.trans (jr_if1 jF_101_7 (by decide +kernel)) ?_
    refine Eq.trans (jr_s (pc2 := 15) (lv2 := [(0, .long 0), (2, .int 57)]) (st2 := [.int 0]) jF_101_14 rfl rfl) ?_
    exact jr_ri jF_101_15 rfl
  refine Eq.trans (jr_if1 jF_152_18 (by decide +kernel)) ?_
  refine Eq.trans (jr_s (pc2 := 35) (lv2 := [(4, .int 58), (3, .int 0), (0, .long 0), (2, .int a2)]) (st2 := []) jF_152_32 rfl rfl) ?_
  refine Eq.trans (jr_s (pc2 := 5) (lv2 := [(4, .int 58), (3, .int 0), (0, .long 0), (2, .int a2)]) (st2 := []) jF_152_35 rfl rfl) ?_
  refine Eq.trans (jr_s (pc2 := 7) (lv2 := [(4, .int 58), (3, .int 0), (0, .long 0), (2, .int a2)]) (st2 := [.int 58]) jF_152_5 rfl rfl) ?_
  refine Eq.trans (jr_s (pc2 := 9) (lv2 := [(4, .int 58), (3, .int 0), (0, .long 0), (2, .int a2)]) (st2 := [.int 64, .int 58]) jF_152_7 rfl rfl) ?_
  refine Eq.trans (jr_ic0 jF_152_9 (by decide +kernel)) ?_
  refine Eq.trans (jr_s (pc2 := 13) (lv2 := [(4, .int 58), (3, .int 0), (0, .long 0), (2, .int a2)]) (st2 := [.long 0]) jF_152_12 rfl rfl) ?_
  refine Eq.trans (jr_s (pc2 := 15) (lv2 := [(4, .int 58), (3, .int 0), (0, .long 0), (2, .int a2)]) (st2 := [.int 58, .long 0]) jF_152_13 rfl rfl) ?_
  refine Eq.trans (jr_cS (as := [.long 0, .int 58]) (rest := []) (v := some (.int 0)) (hp2 := jh2) (fr2 := 498) (lo2 := 19954) jF_152_15 rfl (show j_cnd 499 19976 498 19954 3 _ _ = true from rfl) ?_) ?_
  · refine Eq.trans (jr_s (pc2 := 1) (lv2 := [(0, .long 0), (2, .int 58)]) (st2 := [.long 0]) jF_101_0 rfl rfl) ?_
    refine Eq.trans (jr_s (pc2 := 2) (lv2 := [(0, .long 0), (2, .int 58)]) (st2 := [.int 58, .long 0]) jF_101_1 rfl rfl) ?_
    refine Eq.trans (jr_s (pc2 := 3) (lv2 := [(0, .long 0), (2, .int 58)]) (st2 := [.long 0]) jF_101_2 rfl rfl) ?_
    refine Eq.trans (jr_s (pc2 := 4) (lv2 := [(0, .long 0), (2, .int 58)]) (st2 := [.long 1, .long 0]) jF_101_3 rfl rfl) ?_
    refine Eq.trans (jr_s (pc2 := 5) (lv2 := [(0, .long 0), (2, .int 58)]) (st2 := [.long 0]) jF_101_4 rfl rfl) ?_
    refine Eq.trans (jr_s (pc2 := 6) (lv2 := [(0, .long 0), (2, .int 58)]) (st2 := [.long 0, .long 0]) jF_101_5 rfl rfl) ?_
    refine Eq.trans (jr_s (pc2 := 7) (lv2 := [(0, .long 0), (2, .int 58)]) (st2 := [.int 0]) jF_101_6 rfl rfl) ?_
    refine Eq.trans (jr_if1 jF_101_7 (by decide +kernel)) ?_
    refine Eq.trans (jr_s (pc2 := 15) (lv2 := [(0, .long 0), (2, .int 58)]) (st2 := [.int 0]) jF_101_14 rfl rfl) ?_
    exact jr_ri jF_101_15 rfl
  refine Eq.trans (jr_if1 jF_152_18 (by decide +kernel)) ?_
  refine Eq.trans (jr_s (pc2 := 35) (lv2 := [(4, .int 59), (3, .int 0), (0, .long 0), (2, .int a2)]) (st2 := []) jF_152_32 rfl rfl) ?_
  refine Eq.trans (jr_s (pc2 := 5) (lv2 := [(4, .int 59), (3, .int 0), (0, .long 0), (2, .int a2)]) (st2 := []) jF_152_35 rfl rfl) ?_
  refine Eq.trans (jr_s (pc2 := 7) (lv2 := [(4, .int 59), (3, .int 0), (0, .long 0), (2, .int a2)]) (st2 := [.int 59]) jF_152_5 rfl rfl) ?_
  refine Eq.trans (jr_s (pc2 := 9) (lv2 := [(4, .int 59), (3, .int 0), (0, .long 0), (2, .int a2)]) (st2 := [.int 64, .int 59]) jF_152_7 rfl rfl) ?_
  refine Eq.trans (jr_ic0 jF_152_9 (by decide +kernel)) ?_
  refine Eq.trans (jr_s (pc2 := 13) (lv2 := [(4, .int 59), (3, .int 0), (0, .long 0), (2, .int a2)]) (st2 := [.long 0]) jF_152_12 rfl rfl) ?_
  refine Eq.trans (jr_s (pc2 := 15) (lv2 := [(4, .int 59), (3, .int 0), (0, .long 0), (2, .int a2)]) (st2 := [.int 59, .long 0]) jF_152_13 rfl rfl) ?_
  refine Eq.trans (jr_cS (as := [.long 0, .int 59]) (rest := []) (v := some (.int 0)) (hp2 := jh2) (fr2 := 498) (lo2 := 19954) jF_152_15 rfl (show j_cnd 499 19976 498 19954 3 _ _ = true from rfl) ?_) ?_
  · refine Eq.trans (jr_s (pc2 := 1) (lv2 := [(0, .long 0), (2, .int 59)]) (st2 := [.long 0]) jF_101_0 rfl rfl) ?_
    refine Eq.trans (jr_s (pc2 := 2) (lv2 := [(0, .long 0), (2, .int 59)]) (st2 := [.int 59, .long 0]) jF_101_1 rfl rfl) ?_
    refine Eq.trans (jr_s (pc2 := 3) (lv2 := [(0, .long 0), (2, .int 59)]) (st2 := [.long 0]) jF_101_2 rfl rfl) ?_
    refine Eq.trans (jr_s (pc2 := 4) (lv2 := [(0, .long 0), (2, .int 59)]) (st2 := [.long 1, .long 0]) jF_101_3 rfl rfl) ?_
    refine Eq.trans (jr_s (pc2 := 5) (lv2 := [(0, .long 0), (2, .int 59)]) (st2 := [.long 0]) jF_101_4 rfl rfl) ?_
    refine Eq.trans (jr_s (pc2 := 6) (lv2 := [(0, .long 0), (2, .int 59)]) (st2 := [.long 0, .long 0]) jF_101_5 rfl rfl) ?_
    refine Eq.trans (jr_s (pc2 := 7) (lv2 := [(0, .long 0), (2, .int 59)]) (st2 := [.int 0]) jF_101_6 rfl rfl) ?_
    refine Eq.trans (jr_if1 jF_101_7 (by decide +kernel)) ?_
    refine Eq.trans (jr_s (pc2 := 15) (lv2 := [(0, .long 0), (2, .int 59)]) (st2 := [.int 0]) jF_101_14 rfl rfl) ?_
    exact jr_ri jF_101_15 rfl
  refine Eq.trans (jr_if1 jF_152_18 (by decide +kernel)) ?_
  refine Eq.trans (jr_s (pc2 := 35) (lv2 := [(4, .int 60), (3, .int 0), (0, .long 0), (2, .int a2)]) (st2 := []) jF_152_32 rfl rfl) ?_
  refine Eq.trans (jr_s (pc2 := 5) (lv2 := [(4, .int 60), (3, .int 0), (0, .long 0), (2, .int a2)]) (st2 := []) jF_152_35 rfl rfl) ?_
  refine Eq.trans (jr_s (pc2 := 7) (lv2 := [(4, .int 60), (3, .int 0), (0, .long 0), (2, .int a2)]) (st2 := [.int 60]) jF_152_5 rfl rfl) ?_
  refine Eq.trans (jr_s (pc2 := 9) (lv2 := [(4, .int 60), (3, .int 0), (0, .long 0), (2, .int a2)]) (st2 := [.int 64, .int 60]) jF_152_7 rfl rfl) ?_
  refine Eq.trans (jr_ic0 jF_152_9 (by decide +kernel)) ?_
  refine Eq.trans (jr_s (pc2 := 13) (lv2 := [(4, .int 60), (3, .int 0), (0, .long 0), (2, .int a2)]) (st2 := [.long 0]) jF_152_12 rfl rfl) ?_
  refine Eq.trans (jr_s (pc2 := 15) (lv2 := [(4, .int 60), (3, .int 0), (0, .long 0), (2, .int a2)]) (st2 := [.int 60, .long 0]) jF_152_13 rfl rfl) ?_
  refine Eq.trans (jr_cS (as := [.long 0, .int 60]) (rest := []) (v := some (.int 0)) (hp2 := jh2) (fr2 := 498) (lo2 := 19954) jF_152_15 rfl (show j_cnd 499 19976 498 19954 3 _ _ = true from rfl) ?_) ?_
  · refine Eq.trans (jr_s (pc2 := 1) (lv2 := [(0, .long 0), (2, .int 60)]) (st2 := [.long 0]) jF_101_0 rfl rfl) ?_
    refine Eq.trans (jr_s (pc2 := 2) (lv2 := [(0, .long 0), (2, .int 60)]) (st2 := [.int 60, .long 0]) jF_101_1 rfl rfl) ?_
    refine Eq.trans (jr_s (pc2 := 3) (lv2 := [(0, .long 0), (2, .int 60)]) (st2 := [.long 0]) jF_101_2 rfl rfl) ?_
    refine Eq.trans (jr_s (pc2 := 4) (lv2 := [(0, .long 0), (2, .int 60)]) (st2 := [.long 1, .long 0]) jF_101_3 rfl rfl) ?_
    refine Eq.trans (jr_s (pc2 := 5) (lv2 := [(0, .long 0), (2, .int 60)]) (st2 := [.long 0]) jF_101_4 rfl rfl) ?_
    refine Eq.trans (jr_s (pc2 := 6) (lv2 := [(0, .long 0), (2, .int 60)]) (st2 := [.long 0, .long 0]) jF_101_5 rfl rfl) ?_
    refine Eq.trans (jr_s (pc2 := 7) (lv2 := [(0, .long 0), (2, .int 60)]) (st2 := [.int 0]) jF_101_6 rfl rfl) ?_
    refine Eq.trans (jr_if1 jF_101_7 (by decide +kernel)) ?_
    refine Eq.trans (jr_s (pc2 := 15) (lv2 := [(0, .long 0), (2, .int 60)]) (st2 := [.int 0]) jF_101_14 rfl rfl) ?_
    exact jr_ri jF_101_15 rfl
  refine Eq.trans (jr_if1 jF_152_18 (by decide +kernel)) ?_
  refine Eq.trans (jr_s (pc2 := 35) (lv2 := [(4, .int 61), (3, .int 0), (0, .long 0), (2, .int a2)]) (st2 := []) jF_152_32 rfl rfl) ?_
  refine Eq.trans (jr_s (pc2 := 5) (lv2 := [(4, .int 61), (3, .int 0), (0, .long 0), (2, .int a2)]) (st2 := []) jF_152_35 rfl rfl) ?_
  refine Eq.trans (jr_s (pc2 := 7) (lv2 := [(4, .int 61), (3, .int 0), (0, .long 0), (2, .int a2)]) (st2 := [.int 61]) jF_152_5 rfl rfl) ?_
  refine Eq.trans (jr_s (pc2 := 9) (lv2 := [(4, .int 61), (3, .int 0), (0, .long 0), (2, .int a2)]) (st2 := [.int 64, .int 61]) jF_152_7 rfl rfl) ?_
  refine Eq.trans (jr_ic0 jF_152_9 (by decide +kernel)) ?_
  refine Eq.trans (jr_s (pc2 := 13) (lv2 := [(4, .int 61), (3, .int 0), (0, .long 0), (2, .int a2)]) (st2 := [.long 0]) jF_152_12 rfl rfl) ?_
  refine Eq.trans (jr_s (pc2 := 15) (lv2 := [(4, .int 61), (3, .int 0), (0, .long 0), (2, .int a2)]) (st2 := [.int 61, .long 0]) jF_152_13 rfl rfl) ?_
  refine Eq.trans (jr_cS (as := [.long 0, .int 61]) (rest := []) (v := some (.int 0)) (hp2 := jh2) (fr2 := 498) (lo2 := 19954) jF_152_15 rfl (show j_cnd 499 19976 498 19954 3 _ _ = true from rfl) ?_) ?_
  · refine Eq.trans (jr_s (pc2 := 1) (lv2 := [(0, .long 0), (2, .int 61)]) (st2 := [.long 0]) jF_101_0 rfl rfl) ?_
    refine Eq.trans (jr_s (pc2 := 2) (lv2 := [(0, .long 0), (2, .int 61)]) (st2 := [.int 61, .long 0]) jF_101_1 rfl rfl) ?_
    refine Eq.trans (jr_s (pc2 := 3) (lv2 := [(0, .long 0), (2, .int 61)]) (st2 := [.long 0]) jF_101_2 rfl rfl) ?_
    refine Eq.trans (jr_s (pc2 := 4) (lv2 := [(0, .long 0), (2, .int 61)]) (st2 := [.long 1, .long 0]) jF_101_3 rfl rfl) ?_
    refine Eq.trans (jr_s (pc2 := 5) (lv2 := [(0, .long 0), (2, .int 61)]) (st2 := [.long 0]) jF_101_4 rfl rfl) ?_
    refine Eq.trans (jr_s (pc2 := 6) (lv2 := [(0, .long 0), (2, .int 61)]) (st2 := [.long 0, .long 0]) jF_101_5 rfl rfl) ?_
    refine Eq.trans (jr_s (pc2 := 7) (lv2 := [(0, .long 0), (2, .int 61)]) (st2 := [.int 0]) jF_101_6 rfl rfl) ?_
    refine Eq.trans (jr_if1 jF_101_7 (by decide +kernel)) ?_
    refine Eq.trans (jr_s (pc2 := 15) (lv2 := [(0, .long 0), (2, .int 61)]) (st2 := [.int 0]) jF_101_14 rfl rfl) ?_
    exact jr_ri jF_101_15 rfl
  refine Eq.trans (jr_if1 jF_152_18 (by decide +kernel)) ?_
  refine Eq.trans (jr_s (pc2 := 35) (lv2 := [(4, .int 62), (3, .int 0), (0, .long 0), (2, .int a2)]) (st2 := []) jF_152_32 rfl rfl) ?_
  refine Eq.trans (jr_s (pc2 := 5) (lv2 := [(4, .int 62), (3, .int 0), (0, .long 0), (2, .int a2)]) (st2 := []) jF_152_35 rfl rfl) ?_
  refine Eq.trans (jr_s (pc2 := 7) (lv2 := [(4, .int 62), (3, .int 0), (0, .long 0), (2, .int a2)]) (st2 := [.int 62]) jF_152_5 rfl rfl) ?_
  refine Eq.trans (jr_s (pc2 := 9) (lv2 := [(4, .int 62), (3, .int 0), (0, .long 0), (2, .int a2)]) (st2 := [.int 64, .int 62]) jF_152_7 rfl rfl) ?_
  refine Eq.trans (jr_ic0 jF_152_9 (by decide +kernel)) ?_
  refine Eq.trans (jr_s (pc2 := 13) (lv2 := [(4, .int 62), (3, .int 0), (0, .long 0), (2, .int a2)]) (st2 := [.long 0]) jF_152_12 rfl rfl) ?_
  refine Eq.trans (jr_s (pc2 := 15) (lv2 := [(4, .int 62), (3, .int 0), (0, .long 0), (2, .int a2)]) (st2 := [.int 62, .long 0]) jF_152_13 rfl rfl) ?_
  refine Eq.trans (jr_cS (as := [.long 0, .int 62]) (rest := []) (v := some (.int 0)) (hp2 := jh2) (fr2 := 498) (lo2 := 19954) jF_152_15 rfl (show j_cnd 499 19976 498 19954 3 _ _ = true from rfl) ?_) ?_
  · refine Eq.trans (jr_s (pc2 := 1) (lv2 := [(0, .long 0), (2, .int 62)]) (st2 := [.long 0]) jF_101_0 rfl rfl) ?_
    refine Eq.trans (jr_s (pc2 := 2) (lv2 := [(0, .long 0), (2, .int 62)]) (st2 := [.int 62, .long 0]) jF_101_1 rfl rfl) ?_
    refine Eq.trans (jr_s (pc2 := 3) (lv2 := [(0, .long 0), (2, .int 62)]) (st2 := [.long 0]) jF_101_2 rfl rfl) ?_
    refine Eq.trans (jr_s (pc2 := 4) (lv2 := [(0, .long 0), (2, .int 62)]) (st2 := [.long 1, .long 0]) jF_101_3 rfl rfl) ?_
    refine Eq.trans (jr_s (pc2 := 5) (lv2 := [(0, .long 0), (2, .int 62)]) (st2 := [.long 0]) jF_101_4 rfl rfl) ?_
    refine Eq.trans (jr_s (pc2 := 6) (lv2 := [(0, .long 0), (2, .int 62)]) (st2 := [.long 0, .long 0]) jF_101_5 rfl rfl) ?_
    refine Eq.trans (jr_s (pc2 := 7) (lv2 := [(0, .long 0), (2, .int 62)]) (st2 := [.int 0]) jF_101_6 rfl rfl) ?_
    refine Eq.trans (jr_if1 jF_101_7 (by decide +kernel)) ?_
    refine Eq.trans (jr_s (pc2 := 15) (lv2 := [(0, .long 0), (2, .int 62)]) (st2 := [.int 0]) jF_101_14 rfl rfl) ?_
    exact jr_ri jF_101_15 rfl
  refine Eq.trans (jr_if1 jF_152_18 (by decide +kernel)) ?_
  refine Eq.trans (jr_s (pc2 := 35) (lv2 := [(4, .int 63), (3, .int 0), (0, .long 0), (2, .int a2)]) (st2 := []) jF_152_32 rfl rfl) ?_
  refine Eq.trans (jr_s (pc2 := 5) (lv2 := [(4, .int 63), (3, .int 0), (0, .long 0), (2, .int a2)]) (st2 := []) jF_152_35 rfl rfl) ?_
  refine Eq.trans (jr_s (pc2 := 7) (lv2 := [(4, .int 63), (3, .int 0), (0, .long 0), (2, .int a2)]) (st2 := [.int 63]) jF_152_5 rfl rfl) ?_
  refine Eq.trans (jr_s (pc2 := 9) (lv2 := [(4, .int 63), (3, .int 0), (0, .long 0), (2, .int a2)]) (st2 := [.int 64, .int 63]) jF_152_7 rfl rfl) ?_
  refine Eq.trans (jr_ic0 jF_152_9 (by decide +kernel)) ?_
  refine Eq.trans (jr_s (pc2 := 13) (lv2 := [(4, .int 63), (3, .int 0), (0, .long 0), (2, .int a2)]) (st2 := [.long 0]) jF_152_12 rfl rfl) ?_
  refine Eq.trans (jr_s (pc2 := 15) (lv2 := [(4, .int 63), (3, .int 0), (0, .long 0), (2, .int a2)]) (st2 := [.int 63, .long 0]) jF_152_13 rfl rfl) ?_
  refine Eq.trans (jr_cS (as := [.long 0, .int 63]) (rest := []) (v := some (.int 0)) (hp2 := jh2) (fr2 := 498) (lo2 := 19954) jF_152_15 rfl (show j_cnd 499 19976 498 19954 3 _ _ = true from rfl) ?_) ?_
  · refine Eq.trans (jr_s (pc2 := 1) (lv2 := [(0, .long 0), (2, .int 63)]) (st2 := [.long 0]) jF_101_0 rfl rfl) ?_
    refine Eq.trans (jr_s (pc2 := 2) (lv2 := [(0, .long 0), (2, .int 63)]) (st2 := [.int 63, .long 0]) jF_101_1 rfl rfl) ?_
    refine Eq.trans (jr_s (pc2 := 3) (lv2 := [(0, .long 0), (2, .int 63)]) (st2 := [.long 0]) jF_101_2 rfl rfl) ?_
    refine Eq.trans (jr_s (pc2 := 4) (lv2 := [(0, .long 0), (2, .int 63)]) (st2 := [.long 1, .long 0]) jF_101_3 rfl rfl) ?_
    refine Eq.trans (jr_s (pc2 := 5) (lv2 := [(0, .long 0), (2, .int 63)]) (st2 := [.long 0]) jF_101_4 rfl rfl) ?_
    refine Eq.trans (jr_s (pc2 := 6) (lv2 := [(0, .long 0), (2, .int 63)]) (st2 := [.long 0, .long 0]) jF_101_5 rfl rfl) ?_
    refine Eq.trans (jr_s (pc2 := 7) (lv2 := [(0, .long 0), (2, .int 63)]) (st2 := [.int 0]) jF_101_6 rfl rfl) ?_
    refine Eq.trans (jr_if1 jF_101_7 (by decide +kernel)) ?_
    refine Eq.trans (jr_s (pc2 := 15) (lv2 := [(0, .long 0), (2, .int 63)]) (st2 := [.int 0]) jF_101_14 rfl rfl) ?_
    exact jr_ri jF_101_15 rfl
  refine Eq.trans (jr_if1 jF_152_18 (by decide +kernel)) ?_
  refine Eq.trans (jr_s (pc2 := 35) (lv2 := [(4, .int 64), (3, .int 0), (0, .long 0), (2, .int a2)]) (st2 := []) jF_152_32 rfl rfl) ?_
  refine Eq.trans (jr_s (pc2 := 5) (lv2 := [(4, .int 64), (3, .int 0), (0, .long 0), (2, .int a2)]) (st2 := []) jF_152_35 rfl rfl) ?_
  refine Eq.trans (jr_s (pc2 := 7) (lv2 := [(4, .int 64), (3, .int 0), (0, .long 0), (2, .int a2)]) (st2 := [.int 64]) jF_152_5 rfl rfl) ?_
  refine Eq.trans (jr_s (pc2 := 9) (lv2 := [(4, .int 64), (3, .int 0), (0, .long 0), (2, .int a2)]) (st2 := [.int 64, .int 64]) jF_152_7 rfl rfl) ?_
  refine Eq.trans (jr_ic1 jF_152_9 (by decide +kernel)) ?_
  refine Eq.trans (jr_s (pc2 := 39) (lv2 := [(4, .int 64), (3, .int 0), (0, .long 0), (2, .int a2)]) (st2 := [.int (-1)]) jF_152_38 rfl rfl) ?_
  exact jr_ri jF_152_39 rfl
set_option maxHeartbeats 8000000 in
set_option maxRecDepth 100000 in
theorem pl_hole_1 (n : Nat) (a2 : Int32) : JR (n + 955) 309 0 (lv_args 0 [.long 0, .int a2]) [] (j_hp (JR 37 277 0 (lv_args 0 [.ref 117, .int 1]) [] (j_hp (JR 37 277 0 (lv_args 0 [.ref 117, .int 0]) [] jh2 0 0 499 19979)) 0 0 499 19979)) 0 0 499 19976 = some (some (.int (-1)), (j_hp (JR 37 277 0 (lv_args 0 [.ref 117, .int 1]) [] (j_hp (JR 37 277 0 (lv_args 0 [.ref 117, .int 0]) [] jh2 0 0 499 19979)) 0 0 499 19979)), 0, 0) := by
  refine Eq.trans (jr_s (pc2 := 1) (lv2 := [(0, .long 0), (2, .int a2)]) (st2 := [.int 0]) jF_309_0 rfl rfl) ?_
  refine Eq.trans (jr_s (pc2 := 2) (lv2 := [(3, .int 0), (0, .long 0), (2, .int a2)]) (st2 := []) jF_309_1 rfl rfl) ?_
  refine Eq.trans (jr_s (pc2 := 3) (lv2 := [(3, .int 0), (0, .long 0), (2, .int a2)]) (st2 := [.int 0]) jF_309_2 rfl rfl) ?_
  refine Eq.trans (jr_s (pc2 := 5) (lv2 := [(4, .int 0), (3, .int 0), (0, .long 0), (2, .int a2)]) (st2 := []) jF_309_3 rfl rfl) ?_
  refine Eq.trans (jr_s (pc2 := 7) (lv2 := [(4, .int 0), (3, .int 0), (0, .long 0), (2, .int a2)]) (st2 := [.int 0]) jF_309_5 rfl rfl) ?_
  refine Eq.trans (jr_s (pc2 := 9) (lv2 := [(4, .int 0), (3, .int 0), (0, .long 0), (2, .int a2)]) (st2 := [.int 64, .int 0]) jF_309_7 rfl rfl) ?_
  refine Eq.trans (jr_ic0 jF_309_9 (by decide +kernel)) ?_
  refine Eq.trans (jr_s (pc2 := 13) (lv2 := [(4, .int 0), (3, .int 0), (0, .long 0), (2, .int a2)]) (st2 := [.long 0]) jF_309_12 rfl rfl) ?_
  refine Eq.trans (jr_s (pc2 := 15) (lv2 := [(4, .int 0), (3, .int 0), (0, .long 0), (2, .int a2)]) (st2 := [.int 0, .long 0]) jF_309_13 rfl rfl) ?_
  refine Eq.trans (jr_s (pc2 := 16) (lv2 := [(4, .int 0), (3, .int 0), (0, .long 0), (2, .int a2)]) (st2 := [.long 0]) jF_309_15 rfl rfl) ?_
  refine Eq.trans (jr_s (pc2 := 17) (lv2 := [(4, .int 0), (3, .int 0), (0, .long 0), (2, .int a2)]) (st2 := [.long 1, .long 0]) jF_309_16 rfl rfl) ?_
  refine Eq.trans (jr_s (pc2 := 18) (lv2 := [(4, .int 0), (3, .int 0), (0, .long 0), (2, .int a2)]) (st2 := [.long 0]) jF_309_17 rfl rfl) ?_
  refine Eq.trans (jr_s (pc2 := 19) (lv2 := [(4, .int 0), (3, .int 0), (0, .long 0), (2, .int a2)]) (st2 := [.long 0, .long 0]) jF_309_18 rfl rfl) ?_
  refine Eq.trans (jr_s (pc2 := 20) (lv2 := [(4, .int 0), (3, .int 0), (0, .long 0), (2, .int a2)]) (st2 := [.int 0]) jF_309_19 rfl rfl) ?_
  refine Eq.trans (jr_if0 jF_309_20 (by decide +kernel)) ?_
  refine Eq.trans (jr_s (pc2 := 37) (lv2 := [(4, .int 0), (3, .int 0), (0, .long 0), (2, .int a2)]) (st2 := []) jF_309_23 rfl rfl) ?_
  refine Eq.trans (jr_s (pc2 := 40) (lv2 := [(4, .int 1), (3, .int 0), (0, .long 0), (2, .int a2)]) (st2 := []) jF_309_37 rfl rfl) ?_
  refine Eq.trans (jr_s (pc2 := 5) (lv2 := [(4, .int 1), (3, .int 0), (0, .long 0), (2, .int a2)]) (st2 := []) jF_309_40 rfl rfl) ?_
  refine Eq.trans (jr_s (pc2 := 7) (lv2 := [(4, .int 1), (3, .int 0), (0, .long 0), (2, .int a2)]) (st2 := [.int 1]) jF_309_5 rfl rfl) ?_
  refine Eq.trans (jr_s (pc2 := 9) (lv2 := [(4, .int 1), (3, .int 0), (0, .long 0), (2, .int a2)]) (st2 := [.int 64, .int 1]) jF_309_7 rfl rfl) ?_
  refine Eq.trans (jr_ic0 jF_309_9 (by decide +kernel)) ?_
  refine Eq.trans (jr_s (pc2 := 13) (lv2 := [(4, .int 1), (3, .int 0), (0, .long 0), (2, .int a2)]) (st2 := [.long 0]) jF_309_12 rfl rfl) ?_
  refine Eq.trans (jr_s (pc2 := 15) (lv2 := [(4, .int 1), (3, .int 0), (0, .long 0), (2, .int a2)]) (st2 := [.int 1, .long 0]) jF_309_13 rfl rfl) ?_
  refine Eq.trans (jr_s (pc2 := 16) (lv2 := [(4, .int 1), (3, .int 0), (0, .long 0), (2, .int a2)]) (st2 := [.long 0]) jF_309_15 rfl rfl) ?_
  refine Eq.trans (jr_s (pc2 := 17) (lv2 := [(4, .int 1), (3, .int 0), (0, .long 0), (2, .int a2)]) (st2 := [.long 1, .long 0]) jF_309_16 rfl rfl) ?_
  refine Eq.trans (jr_s (pc2 := 18) (lv2 := [(4, .int 1), (3, .int 0), (0, .long 0), (2, .int a2)]) (st2 := [.long 0]) jF_309_17 rfl rfl) ?_
  refine Eq.trans (jr_s (pc2 := 19) (lv2 := [(4, .int 1), (3, .int 0), (0, .long 0), (2, .int a2)]) (st2 := [.long 0, .long 0]) jF_309_18 rfl rfl) ?_
  refine Eq.trans (jr_s (pc2 := 20) (lv2 := [(4, .int 1), (3, .int 0), (0, .long 0), (2, .int a2)]) (st2 := [.int 0]) jF_309_19 rfl rfl) ?_
  refine Eq.trans (jr_if0 jF_309_20 (by decide +kernel)) ?_
  refine Eq.trans (jr_s (pc2 := 37) (lv2 := [(4, .int 1), (3, .int 0), (0, .long 0), (2, .int a2)]) (st2 := []) jF_309_23 rfl rfl) ?_
  refine Eq.trans (jr_s (pc2 := 40) (lv2 := [(4, .int 2), (3, .int 0), (0, .long 0), (2, .int a2)]) (st2 := []) jF_309_37 rfl rfl) ?_
  refine Eq.trans (jr_s (pc2 := 5) (lv2 := [(4, .int 2), (3, .int 0), (0, .long 0), (2, .int a2)]) (st2 := []) jF_309_40 rfl rfl) ?_
  refine Eq.trans (jr_s (pc2 := 7) (lv2 := [(4, .int 2), (3, .int 0), (0, .long 0), (2, .int a2)]) (st2 := [.int 2]) jF_309_5 rfl rfl) ?_
  refine Eq.trans (jr_s (pc2 := 9) (lv2 := [(4, .int 2), (3, .int 0), (0, .long 0), (2, .int a2)]) (st2 := [.int 64, .int 2]) jF_309_7 rfl rfl) ?_
  refine Eq.trans (jr_ic0 jF_309_9 (by decide +kernel)) ?_
  refine Eq.trans (jr_s (pc2 := 13) (lv2 := [(4, .int 2), (3, .int 0), (0, .long 0), (2, .int a2)]) (st2 := [.long 0]) jF_309_12 rfl rfl) ?_
  refine Eq.trans (jr_s (pc2 := 15) (lv2 := [(4, .int 2), (3, .int 0), (0, .long 0), (2, .int a2)]) (st2 := [.int 2, .long 0]) jF_309_13 rfl rfl) ?_
  refine Eq.trans (jr_s (pc2 := 16) (lv2 := [(4, .int 2), (3, .int 0), (0, .long 0), (2, .int a2)]) (st2 := [.long 0]) jF_309_15 rfl rfl) ?_
  refine Eq.trans (jr_s (pc2 := 17) (lv2 := [(4, .int 2), (3, .int 0), (0, .long 0), (2, .int a2)]) (st2 := [.long 1, .long 0]) jF_309_16 rfl rfl) ?_
  refine Eq.trans (jr_s (pc2 := 18) (lv2 := [(4, .int 2), (3, .int 0), (0, .long 0), (2, .int a2)]) (st2 := [.long 0]) jF_309_17 rfl rfl) ?_
  refine Eq.trans (jr_s (pc2 := 19) (lv2 := [(4, .int 2), (3, .int 0), (0, .long 0), (2, .int a2)]) (st2 := [.long 0, .long 0]) jF_309_18 rfl rfl) ?_
  refine Eq.trans (jr_s (pc2 := 20) (lv2 := [(4, .int 2), (3, .int 0), (0, .long 0), (2, .int a2)]) (st2 := [.int 0]) jF_309_19 rfl rfl) ?_
  refine Eq.trans (jr_if0 jF_309_20 (by decide +kernel)) ?_
  refine Eq.trans (jr_s (pc2 := 37) (lv2 := [(4, .int 2), (3, .int 0), (0, .long 0), (2, .int a2)]) (st2 := []) jF_309_23 rfl rfl) ?_
  refine Eq.trans (jr_s (pc2 := 40) (lv2 := [(4, .int 3), (3, .int 0), (0, .long 0), (2, .int a2)]) (st2 := []) jF_309_37 rfl rfl) ?_
  refine Eq.trans (jr_s (pc2 := 5) (lv2 := [(4, .int 3), (3, .int 0), (0, .long 0), (2, .int a2)]) (st2 := []) jF_309_40 rfl rfl) ?_
  refine Eq.trans (jr_s (pc2 := 7) (lv2 := [(4, .int 3), (3, .int 0), (0, .long 0), (2, .int a2)]) (st2 := [.int 3]) jF_309_5 rfl rfl) ?_
  refine Eq.trans (jr_s (pc2 := 9) (lv2 := [(4, .int 3), (3, .int 0), (0, .long 0), (2, .int a2)]) (st2 := [.int 64, .int 3]) jF_309_7 rfl rfl) ?_
  refine Eq.trans (jr_ic0 jF_309_9 (by decide +kernel)) ?_
  refine Eq.trans (jr_s (pc2 := 13) (lv2 := [(4, .int 3), (3, .int 0), (0, .long 0), (2, .int a2)]) (st2 := [.long 0]) jF_309_12 rfl rfl) ?_
  refine Eq.trans (jr_s (pc2 := 15) (lv2 := [(4, .int 3), (3, .int 0), (0, .long 0), (2, .int a2)]) (st2 := [.int 3, .long 0]) jF_309_13 rfl rfl) ?_
  refine Eq.trans (jr_s (pc2 := 16) (lv2 := [(4, .int 3), (3, .int 0), (0, .long 0), (2, .int a2)]) (st2 := [.long 0]) jF_309_15 rfl rfl) ?_
  refine Eq.trans (jr_s (pc2 := 17) (lv2 := [(4, .int 3), (3, .int 0), (0, .long 0), (2, .int a2)]) (st2 := [.long 1, .long 0]) jF_309_16 rfl rfl) ?_
  refine Eq.trans (jr_s (pc2 := 18) (lv2 := [(4, .int 3), (3, .int 0), (0, .long 0), (2, .int a2)]) (st2 := [.long 0]) jF_309_17 rfl rfl) ?_
  refine Eq.trans (jr_s (pc2 := 19) (lv2 := [(4, .int 3), (3, .int 0), (0, .long 0), (2, .int a2)]) (st2 := [.long 0, .long 0]) jF_309_18 rfl rfl) ?_
  refine Eq.trans (jr_s (pc2 := 20) (lv2 := [(4, .int 3), (3, .int 0), (0, .long 0), (2, .int a2)]) (st2 := [.int 0]) jF_309_19 rfl rfl) ?_
  refine Eq.trans (jr_if0 jF_309_20 (by decide +kernel)) ?_
  refine Eq.trans (jr_s (pc2 := 37) (lv2 := [(4, .int 3), (3, .int 0), (0, .long 0), (2, .int a2)]) (st2 := []) jF_309_23 rfl rfl) ?_
  refine Eq.trans (jr_s (pc2 := 40) (lv2 := [(4, .int 4), (3, .int 0), (0, .long 0), (2, .int a2)]) (st2 := []) jF_309_37 rfl rfl) ?_
  refine Eq.trans (jr_s (pc2 := 5) (lv2 := [(4, .int 4), (3, .int 0), (0, .long 0), (2, .int a2)]) (st2 := []) jF_309_40 rfl rfl) ?_
  refine Eq.trans (jr_s (pc2 := 7) (lv2 := [(4, .int 4), (3, .int 0), (0, .long 0), (2, .int a2)]) (st2 := [.int 4]) jF_309_5 rfl rfl) ?_
  refine Eq.trans (jr_s (pc2 := 9) (lv2 := [(4, .int 4), (3, .int 0), (0, .long 0), (2, .int a2)]) (st2 := [.int 64, .int 4]) jF_309_7 rfl rfl) ?_
  refine Eq.trans (jr_ic0 jF_309_9 (by decide +kernel)) ?_
  refine Eq.trans (jr_s (pc2 := 13) (lv2 := [(4, .int 4), (3, .int 0), (0, .long 0), (2, .int a2)]) (st2 := [.long 0]) jF_309_12 rfl rfl) ?_
  refine Eq.trans (jr_s (pc2 := 15) (lv2 := [(4, .int 4), (3, .int 0), (0, .long 0), (2, .int a2)]) (st2 := [.int 4, .long 0]) jF_309_13 rfl rfl) ?_
  refine Eq.trans (jr_s (pc2 := 16) (lv2 := [(4, .int 4), (3, .int 0), (0, .long 0), (2, .int a2)]) (st2 := [.long 0]) jF_309_15 rfl rfl) ?_
  refine Eq.trans (jr_s (pc2 := 17) (lv2 := [(4, .int 4), (3, .int 0), (0, .long 0), (2, .int a2)]) (st2 := [.long 1, .long 0]) jF_309_16 rfl rfl) ?_
  refine Eq.trans (jr_s (pc2 := 18) (lv2 := [(4, .int 4), (3, .int 0), (0, .long 0), (2, .int a2)]) (st2 := [.long 0]) jF_309_17 rfl rfl) ?_
  refine Eq.trans (jr_s (pc2 := 19) (lv2 := [(4, .int 4), (3, .int 0), (0, .long 0), (2, .int a2)]) (st2 := [.long 0, .long 0]) jF_309_18 rfl rfl) ?_
  refine Eq.trans (jr_s (pc2 := 20) (lv2 := [(4, .int 4), (3, .int 0), (0, .long 0), (2, .int a2)]) (st2 := [.int 0]) jF_309_19 rfl rfl) ?_
  refine Eq.trans (jr_if0 jF_309_20 (by decide +kernel)) ?_
  refine Eq.trans (jr_s (pc2 := 37) (lv2 := [(4, .int 4), (3, .int 0), (0, .long 0), (2, .int a2)]) (st2 := []) jF_309_23 rfl rfl) ?_
  refine Eq.trans (jr_s (pc2 := 40) (lv2 := [(4, .int 5), (3, .int 0), (0, .long 0), (2, .int a2)]) (st2 := []) jF_309_37 rfl rfl) ?_
  refine Eq.trans (jr_s (pc2 := 5) (lv2 := [(4, .int 5), (3, .int 0), (0, .long 0), (2, .int a2)]) (st2 := []) jF_309_40 rfl rfl) ?_
  refine Eq.trans (jr_s (pc2 := 7) (lv2 := [(4, .int 5), (3, .int 0), (0, .long 0), (2, .int a2)]) (st2 := [.int 5]) jF_309_5 rfl rfl) ?_
  refine Eq.trans (jr_s (pc2 := 9) (lv2 := [(4, .int 5), (3, .int 0), (0, .long 0), (2, .int a2)]) (st2 := [.int 64, .int 5]) jF_309_7 rfl rfl) ?_
  refine Eq.trans (jr_ic0 jF_309_9 (by decide +kernel)) ?_
  refine Eq.trans (jr_s (pc2 := 13) (lv2 := [(4, .int 5), (3, .int 0), (0, .long 0), (2, .int a2)]) (st2 := [.long 0]) jF_309_12 rfl rfl) ?_
  refine Eq.trans (jr_s (pc2 := 15) (lv2 := [(4, .int 5), (3, .int 0), (0, .long 0), (2, .int a2)]) (st2 := [.int 5, .long 0]) jF_309_13 rfl rfl) ?_
  refine Eq.trans (jr_s (pc2 := 16) (lv2 := [(4, .int 5), (3, .int 0), (0, .long 0), (2, .int a2)]) (st2 := [.long 0]) jF_309_15 rfl rfl) ?_
  refine Eq.trans (jr_s (pc2 := 17) (lv2 := [(4, .int 5), (3, .int 0), (0, .long 0), (2, .int a2)]) (st2 := [.long 1, .long 0]) jF_309_16 rfl rfl) ?_
  refine Eq.trans (jr_s (pc2 := 18) (lv2 := [(4, .int 5), (3, .int 0), (0, .long 0), (2, .int a2)]) (st2 := [.long 0]) jF_309_17 rfl rfl) ?_
  refine Eq.trans (jr_s (pc2 := 19) (lv2 := [(4, .int 5), (3, .int 0), (0, .long 0), (2, .int a2)]) (st2 := [.long 0, .long 0]) jF_309_18 rfl rfl) ?_
  refine Eq.trans (jr_s (pc2 := 20) (lv2 := [(4, .int 5), (3, .int 0), (0, .long 0), (2, .int a2)]) (st2 := [.int 0]) jF_309_19 rfl rfl) ?_
  refine Eq.trans (jr_if0 jF_309_20 (by decide +kernel)) ?_
  refine Eq.trans (jr_s (pc2 := 37) (lv2 := [(4, .int 5), (3, .int 0), (0, .long 0), (2, .int a2)]) (st2 := []) jF_309_23 rfl rfl) ?_
  refine Eq.trans (jr_s (pc2 := 40) (lv2 := [(4, .int 6), (3, .int 0), (0, .long 0), (2, .int a2)]) (st2 := []) jF_309_37 rfl rfl) ?_
  refine Eq.trans (jr_s (pc2 := 5) (lv2 := [(4, .int 6), (3, .int 0), (0, .long 0), (2, .int a2)]) (st2 := []) jF_309_40 rfl rfl) ?_
  refine Eq.trans (jr_s (pc2 := 7) (lv2 := [(4, .int 6), (3, .int 0), (0, .long 0), (2, .int a2)]) (st2 := [.int 6]) jF_309_5 rfl rfl) ?_
  refine Eq.trans (jr_s (pc2 := 9) (lv2 := [(4, .int 6), (3, .int 0), (0, .long 0), (2, .int a2)]) (st2 := [.int 64, .int 6]) jF_309_7 rfl rfl) ?_
  refine Eq.trans (jr_ic0 jF_309_9 (by decide +kernel)) ?_
  refine Eq.trans (jr_s (pc2 := 13) (lv2 := [(4, .int 6), (3, .int 0), (0, .long 0), (2, .int a2)]) (st2 := [.long 0]) jF_309_12 rfl rfl) ?_
  refine Eq.trans (jr_s (pc2 := 15) (lv2 := [(4, .int 6), (3, .int 0), (0, .long 0), (2, .int a2)]) (st2 := [.int 6, .long 0]) jF_309_13 rfl rfl) ?_
  refine Eq.trans (jr_s (pc2 := 16) (lv2 := [(4, .int 6), (3, .int 0), (0, .long 0), (2, .int a2)]) (st2 := [.long 0]) jF_309_15 rfl rfl) ?_
  refine Eq.trans (jr_s (pc2 := 17) (lv2 := [(4, .int 6), (3, .int 0), (0, .long 0), (2, .int a2)]) (st2 := [.long 1, .long 0]) jF_309_16 rfl rfl) ?_
  refine Eq.trans (jr_s (pc2 := 18) (lv2 := [(4, .int 6), (3, .int 0), (0, .long 0), (2, .int a2)]) (st2 := [.long 0]) jF_309_17 rfl rfl) ?_
  refine Eq.trans (jr_s (pc2 := 19) (lv2 := [(4, .int 6), (3, .int 0), (0, .long 0), (2, .int a2)]) (st2 := [.long 0, .long 0]) jF_309_18 rfl rfl) ?_
  refine Eq.trans (jr_s (pc2 := 20) (lv2 := [(4, .int 6), (3, .int 0), (0, .long 0), (2, .int a2)]) (st2 := [.int 0]) jF_309_19 rfl rfl) ?_
  refine Eq.trans (jr_if0 jF_309_20 (by decide +kernel)) ?_
  refine Eq.trans (jr_s (pc2 := 37) (lv2 := [(4, .int 6), (3, .int 0), (0, .long 0), (2, .int a2)]) (st2 := []) jF_309_23 rfl rfl) ?_
  refine Eq.trans (jr_s (pc2 := 40) (lv2 := [(4, .int 7), (3, .int 0), (0, .long 0), (2, .int a2)]) (st2 := []) jF_309_37 rfl rfl) ?_
  refine Eq.trans (jr_s (pc2 := 5) (lv2 := [(4, .int 7), (3, .int 0), (0, .long 0), (2, .int a2)]) (st2 := []) jF_309_40 rfl rfl) ?_
  refine Eq.trans (jr_s (pc2 := 7) (lv2 := [(4, .int 7), (3, .int 0), (0, .long 0), (2, .int a2)]) (st2 := [.int 7]) jF_309_5 rfl rfl) ?_
  refine Eq.trans (jr_s (pc2 := 9) (lv2 := [(4, .int 7), (3, .int 0), (0, .long 0), (2, .int a2)]) (st2 := [.int 64, .int 7]) jF_309_7 rfl rfl) ?_
  refine Eq.trans (jr_ic0 jF_309_9 (by decide +kernel)) ?_
  refine Eq.trans (jr_s (pc2 := 13) (lv2 := [(4, .int 7), (3, .int 0), (0, .long 0), (2, .int a2)]) (st2 := [.long 0]) jF_309_12 rfl rfl) ?_
  refine Eq.trans (jr_s (pc2 := 15) (lv2 := [(4, .int 7), (3, .int 0), (0, .long 0), (2, .int a2)]) (st2 := [.int 7, .long 0]) jF_309_13 rfl rfl) ?_
  refine Eq.trans (jr_s (pc2 := 16) (lv2 := [(4, .int 7), (3, .int 0), (0, .long 0), (2, .int a2)]) (st2 := [.long 0]) jF_309_15 rfl rfl) ?_
  refine Eq.trans (jr_s (pc2 := 17) (lv2 := [(4, .int 7), (3, .int 0), (0, .long 0), (2, .int a2)]) (st2 := [.long 1, .long 0]) jF_309_16 rfl rfl) ?_
  refine Eq.trans (jr_s (pc2 := 18) (lv2 := [(4, .int 7), (3, .int 0), (0, .long 0), (2, .int a2)]) (st2 := [.long 0]) jF_309_17 rfl rfl) ?_
  refine Eq.trans (jr_s (pc2 := 19) (lv2 := [(4, .int 7), (3, .int 0), (0, .long 0), (2, .int a2)]) (st2 := [.long 0, .long 0]) jF_309_18 rfl rfl) ?_
  refine Eq.trans (jr_s (pc2 := 20) (lv2 := [(4, .int 7), (3, .int 0), (0, .long 0), (2, .int a2)]) (st2 := [.int 0]) jF_309_19 rfl rfl) ?_
  refine Eq.trans (jr_if0 jF_309_20 (by decide +kernel)) ?_
  refine Eq.trans (jr_s (pc2 := 37) (lv2 := [(4, .int 7), (3, .int 0), (0, .long 0), (2, .int a2)]) (st2 := []) jF_309_23 rfl rfl) ?_
  refine Eq.trans (jr_s (pc2 := 40) (lv2 := [(4, .int 8), (3, .int 0), (0, .long 0), (2, .int a2)]) (st2 := []) jF_309_37 rfl rfl) ?_
  refine Eq.trans (jr_s (pc2 := 5) (lv2 := [(4, .int 8), (3, .int 0), (0, .long 0), (2, .int a2)]) (st2 := []) jF_309_40 rfl rfl) ?_
  refine Eq.trans (jr_s (pc2 := 7) (lv2 := [(4, .int 8), (3, .int 0), (0, .long 0), (2, .int a2)]) (st2 := [.int 8]) jF_309_5 rfl rfl) ?_
  refine Eq.trans (jr_s (pc2 := 9) (lv2 := [(4, .int 8), (3, .int 0), (0, .long 0), (2, .int a2)]) (st2 := [.int 64, .int 8]) jF_309_7 rfl rfl) ?_
  refine Eq.trans (jr_ic0 jF_309_9 (by decide +kernel)) ?_
  refine Eq.trans (jr_s (pc2 := 13) (lv2 := [(4, .int 8), (3, .int 0), (0, .long 0), (2, .int a2)]) (st2 := [.long 0]) jF_309_12 rfl rfl) ?_
  refine Eq.trans (jr_s (pc2 := 15) (lv2 := [(4, .int 8), (3, .int 0), (0, .long 0), (2, .int a2)]) (st2 := [.int 8, .long 0]) jF_309_13 rfl rfl) ?_
  refine Eq.trans (jr_s (pc2 := 16) (lv2 := [(4, .int 8), (3, .int 0), (0, .long 0), (2, .int a2)]) (st2 := [.long 0]) jF_309_15 rfl rfl) ?_
  refine Eq.trans (jr_s (pc2 := 17) (lv2 := [(4, .int 8), (3, .int 0), (0, .long 0), (2, .int a2)]) (st2 := [.long 1, .long 0]) jF_309_16 rfl rfl) ?_
  refine Eq.trans (jr_s (pc2 := 18) (lv2 := [(4, .int 8), (3, .int 0), (0, .long 0), (2, .int a2)]) (st2 := [.long 0]) jF_309_17 rfl rfl) ?_
  refine Eq.trans (jr_s (pc2 := 19) (lv2 := [(4, .int 8), (3, .int 0), (0, .long 0), (2, .int a2)]) (st2 := [.long 0, .long 0]) jF_309_18 rfl rfl) ?_
  refine Eq.trans (jr_s (pc2 := 20) (lv2 := [(4, .int 8), (3, .int 0), (0, .long 0), (2, .int a2)]) (st2 := [.int 0]) jF_309_19 rfl rfl) ?_
  refine Eq.trans (jr_if0 jF_309_20 (by decide +kernel)) ?_
  refine Eq.trans (jr_s (pc2 := 37) (lv2 := [(4, .int 8), (3, .int 0), (0, .long 0), (2, .int a2)]) (st2 := []) jF_309_23 rfl rfl) ?_
  refine Eq.trans (jr_s (pc2 := 40) (lv2 := [(4, .int 9), (3, .int 0), (0, .long 0), (2, .int a2)]) (st2 := []) jF_309_37 rfl rfl) ?_
  refine Eq.trans (jr_s (pc2 := 5) (lv2 := [(4, .int 9), (3, .int 0), (0, .long 0), (2, .int a2)]) (st2 := []) jF_309_40 rfl rfl) ?_
  refine Eq.trans (jr_s (pc2 := 7) (lv2 := [(4, .int 9), (3, .int 0), (0, .long 0), (2, .int a2)]) (st2 := [.int 9]) jF_309_5 rfl rfl) ?_
  refine Eq.trans (jr_s (pc2 := 9) (lv2 := [(4, .int 9), (3, .int 0), (0, .long 0), (2, .int a2)]) (st2 := [.int 64, .int 9]) jF_309_7 rfl rfl) ?_
  refine Eq.trans (jr_ic0 jF_309_9 (by decide +kernel)) ?_
  refine Eq.trans (jr_s (pc2 := 13) (lv2 := [(4, .int 9), (3, .int 0), (0, .long 0), (2, .int a2)]) (st2 := [.long 0]) jF_309_12 rfl rfl) ?_
  refine Eq.trans (jr_s (pc2 := 15) (lv2 := [(4, .int 9), (3, .int 0), (0, .long 0), (2, .int a2)]) (st2 := [.int 9, .long 0]) jF_309_13 rfl rfl) ?_
  refine Eq.trans (jr_s (pc2 := 16) (lv2 := [(4, .int 9), (3, .int 0), (0, .long 0), (2, .int a2)]) (st2 := [.long 0]) jF_309_15 rfl rfl) ?_
  refine Eq.trans (jr_s (pc2 := 17) (lv2 := [(4, .int 9), (3, .int 0), (0, .long 0), (2, .int a2)]) (st2 := [.long 1, .long 0]) jF_309_16 rfl rfl) ?_
  refine Eq.trans (jr_s (pc2 := 18) (lv2 := [(4, .int 9), (3, .int 0), (0, .long 0), (2, .int a2)]) (st2 := [.long 0]) jF_309_17 rfl rfl) ?_
  refine Eq.trans (jr_s (pc2 := 19) (lv2 := [(4, .int 9), (3, .int 0), (0, .long 0), (2, .int a2)]) (st2 := [.long 0, .long 0]) jF_309_18 rfl rfl) ?_
  refine Eq.trans (jr_s (pc2 := 20) (lv2 := [(4, .int 9), (3, .int 0), (0, .long 0), (2, .int a2)]) (st2 := [.int 0]) jF_309_19 rfl rfl) ?_
  refine Eq.trans (jr_if0 jF_309_20 (by decide +kernel)) ?_
  refine Eq.trans (jr_s (pc2 := 37) (lv2 := [(4, .int 9), (3, .int 0), (0, .long 0), (2, .int a2)]) (st2 := []) jF_309_23 rfl rfl) ?_
  refine Eq.trans (jr_s (pc2 := 40) (lv2 := [(4, .int 10), (3, .int 0), (0, .long 0), (2, .int a2)]) (st2 := []) jF_309_37 rfl rfl) ?_
  refine Eq.trans (jr_s (pc2 := 5) (lv2 := [(4, .int 10), (3, .int 0), (0, .long 0), (2, .int a2)]) (st2 := []) jF_309_40 rfl rfl) ?_
  refine Eq.trans (jr_s (pc2 := 7) (lv2 := [(4, .int 10), (3, .int 0), (0, .long 0), (2, .int a2)]) (st2 := [.int 10]) jF_309_5 rfl rfl) ?_
  refine Eq.trans (jr_s (pc2 := 9) (lv2 := [(4, .int 10), (3, .int 0), (0, .long 0), (2, .int a2)]) (st2 := [.int 64, .int 10]) jF_309_7 rfl rfl) ?_
  refine Eq.trans (jr_ic0 jF_309_9 (by decide +kernel)) ?_
  refine Eq.trans (jr_s (pc2 := 13) (lv2 := [(4, .int 10), (3, .int 0), (0, .long 0), (2, .int a2)]) (st2 := [.long 0]) jF_309_12 rfl rfl) ?_
  refine Eq.trans (jr_s (pc2 := 15) (lv2 := [(4, .int 10), (3, .int 0), (0, .long 0), (2, .int a2)]) (st2 := [.int 10, .long 0]) jF_309_13 rfl rfl) ?_
  refine Eq.trans (jr_s (pc2 := 16) (lv2 := [(4, .int 10), (3, .int 0), (0, .long 0), (2, .int a2)]) (st2 := [.long 0]) jF_309_15 rfl rfl) ?_
  refine Eq.trans (jr_s (pc2 := 17) (lv2 := [(4, .int 10), (3, .int 0), (0, .long 0), (2, .int a2)]) (st2 := [.long 1, .long 0]) jF_309_16 rfl rfl) ?_
  refine Eq.trans (jr_s (pc2 := 18) (lv2 := [(4, .int 10), (3, .int 0), (0, .long 0), (2, .int a2)]) (st2 := [.long 0]) jF_309_17 rfl rfl) ?_
  refine Eq.trans (jr_s (pc2 := 19) (lv2 := [(4, .int 10), (3, .int 0), (0, .long 0), (2, .int a2)]) (st2 := [.long 0, .long 0]) jF_309_18 rfl rfl) ?_
  refine Eq.trans (jr_s (pc2 := 20) (lv2 := [(4, .int 10), (3, .int 0), (0, .long 0), (2, .int a2)]) (st2 := [.int 0]) jF_309_19 rfl rfl) ?_
  refine Eq.trans (jr_if0 jF_309_20 (by decide +kernel)) ?_
  refine Eq.trans (jr_s (pc2 := 37) (lv2 := [(4, .int 10), (3, .int 0), (0, .long 0), (2, .int a2)]) (st2 := []) jF_309_23 rfl rfl) ?_
  refine Eq.trans (jr_s (pc2 := 40) (lv2 := [(4, .int 11), (3, .int 0), (0, .long 0), (2, .int a2)]) (st2 := []) jF_309_37 rfl rfl) ?_
  refine Eq.trans (jr_s (pc2 := 5) (lv2 := [(4, .int 11), (3, .int 0), (0, .long 0), (2, .int a2)]) (st2 := []) jF_309_40 rfl rfl) ?_
  refine Eq.trans (jr_s (pc2 := 7) (lv2 := [(4, .int 11), (3, .int 0), (0, .long 0), (2, .int a2)]) (st2 := [.int 11]) jF_309_5 rfl rfl) ?_
  refine Eq.trans (jr_s (pc2 := 9) (lv2 := [(4, .int 11), (3, .int 0), (0, .long 0), (2, .int a2)]) (st2 := [.int 64, .int 11]) jF_309_7 rfl rfl) ?_
  refine Eq.trans (jr_ic0 jF_309_9 (by decide +kernel)) ?_
  refine Eq.trans (jr_s (pc2 := 13) (lv2 := [(4, .int 11), (3, .int 0), (0, .long 0), (2, .int a2)]) (st2 := [.long 0]) jF_309_12 rfl rfl) ?_
  refine Eq.trans (jr_s (pc2 := 15) (lv2 := [(4, .int 11), (3, .int 0), (0, .long 0), (2, .int a2)]) (st2 := [.int 11, .long 0]) jF_309_13 rfl rfl) ?_
  refine Eq.trans (jr_s (pc2 := 16) (lv2 := [(4, .int 11), (3, .int 0), (0, .long 0), (2, .int a2)]) (st2 := [.long 0]) jF_309_15 rfl rfl) ?_
  refine Eq.trans (jr_s (pc2 := 17) (lv2 := [(4, .int 11), (3, .int 0), (0, .long 0), (2, .int a2)]) (st2 := [.long 1, .long 0]) jF_309_16 rfl rfl) ?_
  refine Eq.trans (jr_s (pc2 := 18) (lv2 := [(4, .int 11), (3, .int 0), (0, .long 0), (2, .int a2)]) (st2 := [.long 0]) jF_309_17 rfl rfl) ?_
  refine Eq.trans (jr_s (pc2 := 19) (lv2 := [(4, .int 11), (3, .int 0), (0, .long 0), (2, .int a2)]) (st2 := [.long 0, .long 0]) jF_309_18 rfl rfl) ?_
  refine Eq.trans (jr_s (pc2 := 20) (lv2 := [(4, .int 11), (3, .int 0), (0, .long 0), (2, .int a2)]) (st2 := [.int 0]) jF_309_19 rfl rfl) ?_
  refine Eq.trans (jr_if0 jF_309_20 (by decide +kernel)) ?_
  refine Eq.trans (jr_s (pc2 := 37) (lv2 := [(4, .int 11), (3, .int 0), (0, .long 0), (2, .int a2)]) (st2 := []) jF_309_23 rfl rfl) ?_
  refine Eq.trans (jr_s (pc2 := 40) (lv2 := [(4, .int 12), (3, .int 0), (0, .long 0), (2, .int a2)]) (st2 := []) jF_309_37 rfl rfl) ?_
  refine Eq.trans (jr_s (pc2 := 5) (lv2 := [(4, .int 12), (3, .int 0), (0, .long 0), (2, .int a2)]) (st2 := []) jF_309_40 rfl rfl) ?_
  refine Eq.trans (jr_s (pc2 := 7) (lv2 := [(4, .int 12), (3, .int 0), (0, .long 0), (2, .int a2)]) (st2 := [.int 12]) jF_309_5 rfl rfl) ?_
  refine Eq.trans (jr_s (pc2 := 9) (lv2 := [(4, .int 12), (3, .int 0), (0, .long 0), (2, .int a2)]) (st2 := [.int 64, .int 12]) jF_309_7 rfl rfl) ?_
  refine Eq.trans (jr_ic0 jF_309_9 (by decide +kernel)) ?_
  refine Eq.trans (jr_s (pc2 := 13) (lv2 := [(4, .int 12), (3, .int 0), (0, .long 0), (2, .int a2)]) (st2 := [.long 0]) jF_309_12 rfl rfl) ?_
  refine Eq.trans (jr_s (pc2 := 15) (lv2 := [(4, .int 12), (3, .int 0), (0, .long 0), (2, .int a2)]) (st2 := [.int 12, .long 0]) jF_309_13 rfl rfl) ?_
  refine Eq.trans (jr_s (pc2 := 16) (lv2 := [(4, .int 12), (3, .int 0), (0, .long 0), (2, .int a2)]) (st2 := [.long 0]) jF_309_15 rfl rfl) ?_
  refine Eq.trans (jr_s (pc2 := 17) (lv2 := [(4, .int 12), (3, .int 0), (0, .long 0), (2, .int a2)]) (st2 := [.long 1, .long 0]) jF_309_16 rfl rfl) ?_
  refine Eq.trans (jr_s (pc2 := 18) (lv2 := [(4, .int 12), (3, .int 0), (0, .long 0), (2, .int a2)]) (st2 := [.long 0]) jF_309_17 rfl rfl) ?_
  refine Eq.trans (jr_s (pc2 := 19) (lv2 := [(4, .int 12), (3, .int 0), (0, .long 0), (2, .int a2)]) (st2 := [.long 0, .long 0]) jF_309_18 rfl rfl) ?_
  refine Eq.trans (jr_s (pc2 := 20) (lv2 := [(4, .int 12), (3, .int 0), (0, .long 0), (2, .int a2)]) (st2 := [.int 0]) jF_309_19 rfl rfl) ?_
  refine Eq.trans (jr_if0 jF_309_20 (by decide +kernel)) ?_
  refine Eq.trans (jr_s (pc2 := 37) (lv2 := [(4, .int 12), (3, .int 0), (0, .long 0), (2, .int a2)]) (st2 := []) jF_309_23 rfl rfl) ?_
  refine Eq.trans (jr_s (pc2 := 40) (lv2 := [(4, .int 13), (3, .int 0), (0, .long 0), (2, .int a2)]) (st2 := []) jF_309_37 rfl rfl) ?_
  refine Eq.trans (jr_s (pc2 := 5) (lv2 := [(4, .int 13), (3, .int 0), (0, .long 0), (2, .int a2)]) (st2 := []) jF_309_40 rfl rfl) ?_
  refine Eq.trans (jr_s (pc2 := 7) (lv2 := [(4, .int 13), (3, .int 0), (0, .long 0), (2, .int a2)]) (st2 := [.int 13]) jF_309_5 rfl rfl) ?_
  refine Eq.trans (jr_s (pc2 := 9) (lv2 := [(4, .int 13), (3, .int 0), (0, .long 0), (2, .int a2)]) (st2 := [.int 64, .int 13]) jF_309_7 rfl rfl) ?_
  refine Eq.trans (jr_ic0 jF_309_9 (by decide +kernel)) ?_
  refine Eq.trans (jr_s (pc2 := 13) (lv2 := [(4, .int 13), (3, .int 0), (0, .long 0), (2, .int a2)]) (st2 := [.long 0]) jF_309_12 rfl rfl) ?_
  refine Eq.trans (jr_s (pc2 := 15) (lv2 := [(4, .int 13), (3, .int 0), (0, .long 0), (2, .int a2)]) (st2 := [.int 13, .long 0]) jF_309_13 rfl rfl) ?_
  refine Eq.trans (jr_s (pc2 := 16) (lv2 := [(4, .int 13), (3, .int 0), (0, .long 0), (2, .int a2)]) (st2 := [.long 0]) jF_309_15 rfl rfl) ?_
  refine Eq.trans (jr_s (pc2 := 17) (lv2 := [(4, .int 13), (3, .int 0), (0, .long 0), (2, .int a2)]) (st2 := [.long 1, .long 0]) jF_309_16 rfl rfl) ?_
  refine Eq.trans (jr_s (pc2 := 18) (lv2 := [(4, .int 13), (3, .int 0), (0, .long 0), (2, .int a2)]) (st2 := [.long 0]) jF_309_17 rfl rfl) ?_
  refine Eq.trans (jr_s (pc2 := 19) (lv2 := [(4, .int 13), (3, .int 0), (0, .long 0), (2, .int a2)]) (st2 := [.long 0, .long 0]) jF_309_18 rfl rfl) ?_
  refine Eq.trans (jr_s (pc2 := 20) (lv2 := [(4, .int 13), (3, .int 0), (0, .long 0), (2, .int a2)]) (st2 := [.int 0]) jF_309_19 rfl rfl) ?_
  refine Eq.trans (jr_if0 jF_309_20 (by decide +kernel)) ?_
  refine Eq.trans (jr_s (pc2 := 37) (lv2 := [(4, .int 13), (3, .int 0), (0, .long 0), (2, .int a2)]) (st2 := []) jF_309_23 rfl rfl) ?_
  refine Eq.trans (jr_s (pc2 := 40) (lv2 := [(4, .int 14), (3, .int 0), (0, .long 0), (2, .int a2)]) (st2 := []) jF_309_37 rfl rfl) ?_
  refine Eq.trans (jr_s (pc2 := 5) (lv2 := [(4, .int 14), (3, .int 0), (0, .long 0), (2, .int a2)]) (st2 := []) jF_309_40 rfl rfl) ?_
  refine Eq.trans (jr_s (pc2 := 7) (lv2 := [(4, .int 14), (3, .int 0), (0, .long 0), (2, .int a2)]) (st2 := [.int 14]) jF_309_5 rfl rfl) ?_
  refine Eq.trans (jr_s (pc2 := 9) (lv2 := [(4, .int 14), (3, .int 0), (0, .long 0), (2, .int a2)]) (st2 := [.int 64, .int 14]) jF_309_7 rfl rfl) ?_
  refine Eq.trans (jr_ic0 jF_309_9 (by decide +kernel)) ?_
  refine Eq.trans (jr_s (pc2 := 13) (lv2 := [(4, .int 14), (3, .int 0), (0, .long 0), (2, .int a2)]) (st2 := [.long 0]) jF_309_12 rfl rfl) ?_
  refine Eq.trans (jr_s (pc2 := 15) (lv2 := [(4, .int 14), (3, .int 0), (0, .long 0), (2, .int a2)]) (st2 := [.int 14, .long 0]) jF_309_13 rfl rfl) ?_
  refine Eq.trans (jr_s (pc2 := 16) (lv2 := [(4, .int 14), (3, .int 0), (0, .long 0), (2, .int a2)]) (st2 := [.long 0]) jF_309_15 rfl rfl) ?_
  refine Eq.trans (jr_s (pc2 := 17) (lv2 := [(4, .int 14), (3, .int 0), (0, .long 0), (2, .int a2)]) (st2 := [.long 1, .long 0]) jF_309_16 rfl rfl) ?_
  refine Eq.trans (jr_s (pc2 := 18) (lv2 := [(4, .int 14), (3, .int 0), (0, .long 0), (2, .int a2)]) (st2 := [.long 0]) jF_309_17 rfl rfl) ?_
  refine Eq.trans (jr_s (pc2 := 19) (lv2 := [(4, .int 14), (3, .int 0), (0, .long 0), (2, .int a2)]) (st2 := [.long 0, .long 0]) jF_309_18 rfl rfl) ?_
  refine Eq.trans (jr_s (pc2 := 20) (lv2 := [(4, .int 14), (3, .int 0), (0, .long 0), (2, .int a2)]) (st2 := [.int 0]) jF_309_19 rfl rfl) ?_
  refine Eq.trans (jr_if0 jF_309_20 (by decide +kernel)) ?_
  refine Eq.trans (jr_s (pc2 := 37) (lv2 := [(4, .int 14), (3, .int 0), (0, .long 0), (2, .int a2)]) (st2 := []) jF_309_23 rfl rfl) ?_
  refine Eq.trans (jr_s (pc2 := 40) (lv2 := [(4, .int 15), (3, .int 0), (0, .long 0), (2, .int a2)]) (st2 := []) jF_309_37 rfl rfl) ?_
  refine Eq.trans (jr_s (pc2 := 5) (lv2 := [(4, .int 15), (3, .int 0), (0, .long 0), (2, .int a2)]) (st2 := []) jF_309_40 rfl rfl) ?_
  refine Eq.trans (jr_s (pc2 := 7) (lv2 := [(4, .int 15), (3, .int 0), (0, .long 0), (2, .int a2)]) (st2 := [.int 15]) jF_309_5 rfl rfl) ?_
  refine Eq.trans (jr_s (pc2 := 9) (lv2 := [(4, .int 15), (3, .int 0), (0, .long 0), (2, .int a2)]) (st2 := [.int 64, .int 15]) jF_309_7 rfl rfl) ?_
  refine Eq.trans (jr_ic0 jF_309_9 (by decide +kernel)) ?_
  refine Eq.trans (jr_s (pc2 := 13) (lv2 := [(4, .int 15), (3, .int 0), (0, .long 0), (2, .int a2)]) (st2 := [.long 0]) jF_309_12 rfl rfl) ?_
  refine Eq.trans (jr_s (pc2 := 15) (lv2 := [(4, .int 15), (3, .int 0), (0, .long 0), (2, .int a2)]) (st2 := [.int 15, .long 0]) jF_309_13 rfl rfl) ?_
  refine Eq.trans (jr_s (pc2 := 16) (lv2 := [(4, .int 15), (3, .int 0), (0, .long 0), (2, .int a2)]) (st2 := [.long 0]) jF_309_15 rfl rfl) ?_
  refine Eq.trans (jr_s (pc2 := 17) (lv2 := [(4, .int 15), (3, .int 0), (0, .long 0), (2, .int a2)]) (st2 := [.long 1, .long 0]) jF_309_16 rfl rfl) ?_
  refine Eq.trans (jr_s (pc2 := 18) (lv2 := [(4, .int 15), (3, .int 0), (0, .long 0), (2, .int a2)]) (st2 := [.long 0]) jF_309_17 rfl rfl) ?_
  refine Eq.trans (jr_s (pc2 := 19) (lv2 := [(4, .int 15), (3, .int 0), (0, .long 0), (2, .int a2)]) (st2 := [.long 0, .long 0]) jF_309_18 rfl rfl) ?_
  refine Eq.trans (jr_s (pc2 := 20) (lv2 := [(4, .int 15), (3, .int 0), (0, .long 0), (2, .int a2)]) (st2 := [.int 0]) jF_309_19 rfl rfl) ?_
  refine Eq.trans (jr_if0 jF_309_20 (by decide +kernel)) ?_
  refine Eq.trans (jr_s (pc2 := 37) (lv2 := [(4, .int 15), (3, .int 0), (0, .long 0), (2, .int a2)]) (st2 := []) jF_309_23 rfl rfl) ?_
  refine Eq.trans (jr_s (pc2 := 40) (lv2 := [(4, .int 16), (3, .int 0), (0, .long 0), (2, .int a2)]) (st2 := []) jF_309_37 rfl rfl) ?_
  refine Eq.trans (jr_s (pc2 := 5) (lv2 := [(4, .int 16), (3, .int 0), (0, .long 0), (2, .int a2)]) (st2 := []) jF_309_40 rfl rfl) ?_
  refine Eq.trans (jr_s (pc2 := 7) (lv2 := [(4, .int 16), (3, .int 0), (0, .long 0), (2, .int a2)]) (st2 := [.int 16]) jF_309_5 rfl rfl) ?_
  refine Eq.trans (jr_s (pc2 := 9) (lv2 := [(4, .int 16), (3, .int 0), (0, .long 0), (2, .int a2)]) (st2 := [.int 64, .int 16]) jF_309_7 rfl rfl) ?_
  refine Eq.trans (jr_ic0 jF_309_9 (by decide +kernel)) ?_
  refine Eq.trans (jr_s (pc2 := 13) (lv2 := [(4, .int 16), (3, .int 0), (0, .long 0), (2, .int a2)]) (st2 := [.long 0]) jF_309_12 rfl rfl) ?_
  refine Eq.trans (jr_s (pc2 := 15) (lv2 := [(4, .int 16), (3, .int 0), (0, .long 0), (2, .int a2)]) (st2 := [.int 16, .long 0]) jF_309_13 rfl rfl) ?_
  refine Eq.trans (jr_s (pc2 := 16) (lv2 := [(4, .int 16), (3, .int 0), (0, .long 0), (2, .int a2)]) (st2 := [.long 0]) jF_309_15 rfl rfl) ?_
  refine Eq.trans (jr_s (pc2 := 17) (lv2 := [(4, .int 16), (3, .int 0), (0, .long 0), (2, .int a2)]) (st2 := [.long 1, .long 0]) jF_309_16 rfl rfl) ?_
  refine Eq.trans (jr_s (pc2 := 18) (lv2 := [(4, .int 16), (3, .int 0), (0, .long 0), (2, .int a2)]) (st2 := [.long 0]) jF_309_17 rfl rfl) ?_
  refine Eq.trans (jr_s (pc2 := 19) (lv2 := [(4, .int 16), (3, .int 0), (0, .long 0), (2, .int a2)]) (st2 := [.long 0, .long 0]) jF_309_18 rfl rfl) ?_
  refine Eq.trans (jr_s (pc2 := 20) (lv2 := [(4, .int 16), (3, .int 0), (0, .long 0), (2, .int a2)]) (st2 := [.int 0]) jF_309_19 rfl rfl) ?_
  refine Eq.trans (jr_if0 jF_309_20 (by decide +kernel)) ?_
  refine Eq.trans (jr_s (pc2 := 37) (lv2 := [(4, .int 16), (3, .int 0), (0, .long 0), (2, .int a2)]) (st2 := []) jF_309_23 rfl rfl) ?_
  refine Eq.trans (jr_s (pc2 := 40) (lv2 := [(4, .int 17), (3, .int 0), (0, .long 0), (2, .int a2)]) (st2 := []) jF_309_37 rfl rfl) ?_
  refine Eq.trans (jr_s (pc2 := 5) (lv2 := [(4, .int 17), (3, .int 0), (0, .long 0), (2, .int a2)]) (st2 := []) jF_309_40 rfl rfl) ?_
  refine Eq.trans (jr_s (pc2 := 7) (lv2 := [(4, .int 17), (3, .int 0), (0, .long 0), (2, .int a2)]) (st2 := [.int 17]) jF_309_5 rfl rfl) ?_
  refine Eq.trans (jr_s (pc2 := 9) (lv2 := [(4, .int 17), (3, .int 0), (0, .long 0), (2, .int a2)]) (st2 := [.int 64, .int 17]) jF_309_7 rfl rfl) ?_
  refine Eq.trans (jr_ic0 jF_309_9 (by decide +kernel)) ?_
  refine Eq.trans (jr_s (pc2 := 13) (lv2 := [(4, .int 17), (3, .int 0), (0, .long 0), (2, .int a2)]) (st2 := [.long 0]) jF_309_12 rfl rfl) ?_
  refine Eq.trans (jr_s (pc2 := 15) (lv2 := [(4, .int 17), (3, .int 0), (0, .long 0), (2, .int a2)]) (st2 := [.int 17, .long 0]) jF_309_13 rfl rfl) ?_
  refine Eq.trans (jr_s (pc2 := 16) (lv2 := [(4, .int 17), (3, .int 0), (0, .long 0), (2, .int a2)]) (st2 := [.long 0]) jF_309_15 rfl rfl) ?_
  refine Eq.trans (jr_s (pc2 := 17) (lv2 := [(4, .int 17), (3, .int 0), (0, .long 0), (2, .int a2)]) (st2 := [.long 1, .long 0]) jF_309_16 rfl rfl) ?_
  refine Eq.trans (jr_s (pc2 := 18) (lv2 := [(4, .int 17), (3, .int 0), (0, .long 0), (2, .int a2)]) (st2 := [.long 0]) jF_309_17 rfl rfl) ?_
  refine Eq.trans (jr_s (pc2 := 19) (lv2 := [(4, .int 17), (3, .int 0), (0, .long 0), (2, .int a2)]) (st2 := [.long 0, .long 0]) jF_309_18 rfl rfl) ?_
  refine Eq.trans (jr_s (pc2 := 20) (lv2 := [(4, .int 17), (3, .int 0), (0, .long 0), (2, .int a2)]) (st2 := [.int 0]) jF_309_19 rfl rfl) ?_
  refine Eq.trans (jr_if0 jF_309_20 (by decide +kernel)) ?_
  refine Eq.trans (jr_s (pc2 := 37) (lv2 := [(4, .int 17), (3, .int 0), (0, .long 0), (2, .int a2)]) (st2 := []) jF_309_23 rfl rfl) ?_
  refine Eq.trans (jr_s (pc2 := 40) (lv2 := [(4, .int 18), (3, .int 0), (0, .long 0), (2, .int a2)]) (st2 := []) jF_309_37 rfl rfl) ?_
  refine Eq.trans (jr_s (pc2 := 5) (lv2 := [(4, .int 18), (3, .int 0), (0, .long 0), (2, .int a2)]) (st2 := []) jF_309_40 rfl rfl) ?_
  refine Eq.trans (jr_s (pc2 := 7) (lv2 := [(4, .int 18), (3, .int 0), (0, .long 0), (2, .int a2)]) (st2 := [.int 18]) jF_309_5 rfl rfl) ?_
  refine Eq.trans (jr_s (pc2 := 9) (lv2 := [(4, .int 18), (3, .int 0), (0, .long 0), (2, .int a2)]) (st2 := [.int 64, .int 18]) jF_309_7 rfl rfl) ?_
  refine Eq.trans (jr_ic0 jF_309_9 (by decide +kernel)) ?_
  refine Eq.trans (jr_s (pc2 := 13) (lv2 := [(4, .int 18), (3, .int 0), (0, .long 0), (2, .int a2)]) (st2 := [.long 0]) jF_309_12 rfl rfl) ?_
  refine Eq.trans (jr_s (pc2 := 15) (lv2 := [(4, .int 18), (3, .int 0), (0, .long 0), (2, .int a2)]) (st2 := [.int 18, .long 0]) jF_309_13 rfl rfl) ?_
  refine Eq.trans (jr_s (pc2 := 16) (lv2 := [(4, .int 18), (3, .int 0), (0, .long 0), (2, .int a2)]) (st2 := [.long 0]) jF_309_15 rfl rfl) ?_
  refine Eq.trans (jr_s (pc2 := 17) (lv2 := [(4, .int 18), (3, .int 0), (0, .long 0), (2, .int a2)]) (st2 := [.long 1, .long 0]) jF_309_16 rfl rfl) ?_
  refine Eq.trans (jr_s (pc2 := 18) (lv2 := [(4, .int 18), (3, .int 0), (0, .long 0), (2, .int a2)]) (st2 := [.long 0]) jF_309_17 rfl rfl) ?_
  refine Eq.trans (jr_s (pc2 := 19) (lv2 := [(4, .int 18), (3, .int 0), (0, .long 0), (2, .int a2)]) (st2 := [.long 0, .long 0]) jF_309_18 rfl rfl) ?_
  refine Eq.trans (jr_s (pc2 := 20) (lv2 := [(4, .int 18), (3, .int 0), (0, .long 0), (2, .int a2)]) (st2 := [.int 0]) jF_309_19 rfl rfl) ?_
  refine Eq.trans (jr_if0 jF_309_20 (by decide +kernel)) ?_
  refine Eq.trans (jr_s (pc2 := 37) (lv2 := [(4, .int 18), (3, .int 0), (0, .long 0), (2, .int a2)]) (st2 := []) jF_309_23 rfl rfl) ?_
  refine Eq.trans (jr_s (pc2 := 40) (lv2 := [(4, .int 19), (3, .int 0), (0, .long 0), (2, .int a2)]) (st2 := []) jF_309_37 rfl rfl) ?_
  refine Eq.trans (jr_s (pc2 := 5) (lv2 := [(4, .int 19), (3, .int 0), (0, .long 0), (2, .int a2)]) (st2 := []) jF_309_40 rfl rfl) ?_
  refine Eq.trans (jr_s (pc2 := 7) (lv2 := [(4, .int 19), (3, .int 0), (0, .long 0), (2, .int a2)]) (st2 := [.int 19]) jF_309_5 rfl rfl) ?_
  refine Eq.trans (jr_s (pc2 := 9) (lv2 := [(4, .int 19), (3, .int 0), (0, .long 0), (2, .int a2)]) (st2 := [.int 64, .int 19]) jF_309_7 rfl rfl) ?_
  refine Eq.trans (jr_ic0 jF_309_9 (by decide +kernel)) ?_
  refine Eq.trans (jr_s (pc2 := 13) (lv2 := [(4, .int 19), (3, .int 0), (0, .long 0), (2, .int a2)]) (st2 := [.long 0]) jF_309_12 rfl rfl) ?_
  refine Eq.trans (jr_s (pc2 := 15) (lv2 := [(4, .int 19), (3, .int 0), (0, .long 0), (2, .int a2)]) (st2 := [.int 19, .long 0]) jF_309_13 rfl rfl) ?_
  refine Eq.trans (jr_s (pc2 := 16) (lv2 := [(4, .int 19), (3, .int 0), (0, .long 0), (2, .int a2)]) (st2 := [.long 0]) jF_309_15 rfl rfl) ?_
  refine Eq.trans (jr_s (pc2 := 17) (lv2 := [(4, .int 19), (3, .int 0), (0, .long 0), (2, .int a2)]) (st2 := [.long 1, .long 0]) jF_309_16 rfl rfl) ?_
  refine Eq.trans (jr_s (pc2 := 18) (lv2 := [(4, .int 19), (3, .int 0), (0, .long 0), (2, .int a2)]) (st2 := [.long 0]) jF_309_17 rfl rfl) ?_
  refine Eq.trans (jr_s (pc2 := 19) (lv2 := [(4, .int 19), (3, .int 0), (0, .long 0), (2, .int a2)]) (st2 := [.long 0, .long 0]) jF_309_18 rfl rfl) ?_
  refine Eq.trans (jr_s (pc2 := 20) (lv2 := [(4, .int 19), (3, .int 0), (0, .long 0), (2, .int a2)]) (st2 := [.int 0]) jF_309_19 rfl rfl) ?_
  refine Eq.trans (jr_if0 jF_309_20 (by decide +kernel)) ?_
  refine Eq.trans (jr_s (pc2 := 37) (lv2 := [(4, .int 19), (3, .int 0), (0, .long 0), (2, .int a2)]) (st2 := []) jF_309_23 rfl rfl) ?_
  refine Eq.trans (jr_s (pc2 := 40) (lv2 := [(4, .int 20), (3, .int 0), (0, .long 0), (2, .int a2)]) (st2 := []) jF_309_37 rfl rfl) ?_
  refine Eq.trans (jr_s (pc2 := 5) (lv2 := [(4, .int 20), (3, .int 0), (0, .long 0), (2, .int a2)]) (st2 := []) jF_309_40 rfl rfl) ?_
  refine Eq.trans (jr_s (pc2 := 7) (lv2 := [(4, .int 20), (3, .int 0), (0, .long 0), (2, .int a2)]) (st2 := [.int 20]) jF_309_5 rfl rfl) ?_
  refine Eq.trans (jr_s (pc2 := 9) (lv2 := [(4, .int 20), (3, .int 0), (0, .long 0), (2, .int a2)]) (st2 := [.int 64, .int 20]) jF_309_7 rfl rfl) ?_
  refine Eq.trans (jr_ic0 jF_309_9 (by decide +kernel)) ?_
  refine Eq.trans (jr_s (pc2 := 13) (lv2 := [(4, .int 20), (3, .int 0), (0, .long 0), (2, .int a2)]) (st2 := [.long 0]) jF_309_12 rfl rfl) ?_
  refine Eq.trans (jr_s (pc2 := 15) (lv2 := [(4, .int 20), (3, .int 0), (0, .long 0), (2, .int a2)]) (st2 := [.int 20, .long 0]) jF_309_13 rfl rfl) ?_
  refine Eq.trans (jr_s (pc2 := 16) (lv2 := [(4, .int 20), (3, .int 0), (0, .long 0), (2, .int a2)]) (st2 := [.long 0]) jF_309_15 rfl rfl) ?_
  refine Eq.trans (jr_s (pc2 := 17) (lv2 := [(4, .int 20), (3, .int 0), (0, .long 0), (2, .int a2)]) (st2 := [.long 1, .long 0]) jF_309_16 rfl rfl) ?_
  refine Eq.trans (jr_s (pc2 := 18) (lv2 := [(4, .int 20), (3, .int 0), (0, .long 0), (2, .int a2)]) (st2 := [.long 0]) jF_309_17 rfl rfl) ?_
  refine Eq.trans (jr_s (pc2 := 19) (lv2 := [(4, .int 20), (3, .int 0), (0, .long 0), (2, .int a2)]) (st2 := [.long 0, .long 0]) jF_309_18 rfl rfl) ?_
  refine Eq.trans (jr_s (pc2 := 20) (lv2 := [(4, .int 20), (3, .int 0), (0, .long 0), (2, .int a2)]) (st2 := [.int 0]) jF_309_19 rfl rfl) ?_
  refine Eq.trans (jr_if0 jF_309_20 (by decide +kernel)) ?_
  refine Eq.trans (jr_s (pc2 := 37) (lv2 := [(4, .int 20), (3, .int 0), (0, .long 0), (2, .int a2)]) (st2 := []) jF_309_23 rfl rfl) ?_
  refine Eq.trans (jr_s (pc2 := 40) (lv2 := [(4, .int 21), (3, .int 0), (0, .long 0), (2, .int a2)]) (st2 := []) jF_309_37 rfl rfl) ?_
  refine Eq.trans (jr_s (pc2 := 5) (lv2 := [(4, .int 21), (3, .int 0), (0, .long 0), (2, .int a2)]) (st2 := []) jF_309_40 rfl rfl) ?_
  refine Eq.trans (jr_s (pc2 := 7) (lv2 := [(4, .int 21), (3, .int 0), (0, .long 0), (2, .int a2)]) (st2 := [.int 21]) jF_309_5 rfl rfl) ?_
  refine Eq.trans (jr_s (pc2 := 9) (lv2 := [(4, .int 21), (3, .int 0), (0, .long 0), (2, .int a2)]) (st2 := [.int 64, .int 21]) jF_309_7 rfl rfl) ?_
  refine Eq.trans (jr_ic0 jF_309_9 (by decide +kernel)) ?_
  refine Eq.trans (jr_s (pc2 := 13) (lv2 := [(4, .int 21), (3, .int 0), (0, .long 0), (2, .int a2)]) (st2 := [.long 0]) jF_309_12 rfl rfl) ?_
  refine Eq.trans (jr_s (pc2 := 15) (lv2 := [(4, .int 21), (3, .int 0), (0, .long 0), (2, .int a2)]) (st2 := [.int 21, .long 0]) jF_309_13 rfl rfl) ?_
  refine Eq.trans (jr_s (pc2 := 16) (lv2 := [(4, .int 21), (3, .int 0), (0, .long 0), (2, .int a2)]) (st2 := [.long 0]) jF_309_15 rfl rfl) ?_
  refine Eq.trans (jr_s (pc2 := 17) (lv2 := [(4, .int 21), (3, .int 0), (0, .long 0), (2, .int a2)]) (st2 := [.long 1, .long 0]) jF_309_16 rfl rfl) ?_
  refine Eq.trans (jr_s (pc2 := 18) (lv2 := [(4, .int 21), (3, .int 0), (0, .long 0), (2, .int a2)]) (st2 := [.long 0]) jF_309_17 rfl rfl) ?_
  refine Eq.trans (jr_s (pc2 := 19) (lv2 := [(4, .int 21), (3, .int 0), (0, .long 0), (2, .int a2)]) (st2 := [.long 0, .long 0]) jF_309_18 rfl rfl) ?_
  refine Eq.trans (jr_s (pc2 := 20) (lv2 := [(4, .int 21), (3, .int 0), (0, .long 0), (2, .int a2)]) (st2 := [.int 0]) jF_309_19 rfl rfl) ?_
  refine Eq.trans (jr_if0 jF_309_20 (by decide +kernel)) ?_
  refine Eq.trans (jr_s (pc2 := 37) (lv2 := [(4, .int 21), (3, .int 0), (0, .long 0), (2, .int a2)]) (st2 := []) jF_309_23 rfl rfl) ?_
  refine Eq.trans (jr_s (pc2 := 40) (lv2 := [(4, .int 22), (3, .int 0), (0, .long 0), (2, .int a2)]) (st2 := []) jF_309_37 rfl rfl) ?_
  refine Eq.trans (jr_s (pc2 := 5) (lv2 := [(4, .int 22), (3, .int 0), (0, .long 0), (2, .int a2)]) (st2 := []) jF_309_40 rfl rfl) ?_
  refine Eq.trans (jr_s (pc2 := 7) (lv2 := [(4, .int 22), (3, .int 0), (0, .long 0), (2, .int a2)]) (st2 := [.int 22]) jF_309_5 rfl rfl) ?_
  refine Eq.trans (jr_s (pc2 := 9) (lv2 := [(4, .int 22), (3, .int 0), (0, .long 0), (2, .int a2)]) (st2 := [.int 64, .int 22]) jF_309_7 rfl rfl) ?_
  refine Eq.trans (jr_ic0 jF_309_9 (by decide +kernel)) ?_
  refine Eq.trans (jr_s (pc2 := 13) (lv2 := [(4, .int 22), (3, .int 0), (0, .long 0), (2, .int a2)]) (st2 := [.long 0]) jF_309_12 rfl rfl) ?_
  refine Eq.trans (jr_s (pc2 := 15) (lv2 := [(4, .int 22), (3, .int 0), (0, .long 0), (2, .int a2)]) (st2 := [.int 22, .long 0]) jF_309_13 rfl rfl) ?_
  refine Eq.trans (jr_s (pc2 := 16) (lv2 := [(4, .int 22), (3, .int 0), (0, .long 0), (2, .int a2)]) (st2 := [.long 0]) jF_309_15 rfl rfl) ?_
  refine Eq.trans (jr_s (pc2 := 17) (lv2 := [(4, .int 22), (3, .int 0), (0, .long 0), (2, .int a2)]) (st2 := [.long 1, .long 0]) jF_309_16 rfl rfl) ?_
  refine Eq.trans (jr_s (pc2 := 18) (lv2 := [(4, .int 22), (3, .int 0), (0, .long 0), (2, .int a2)]) (st2 := [.long 0]) jF_309_17 rfl rfl) ?_
  refine Eq.trans (jr_s (pc2 := 19) (lv2 := [(4, .int 22), (3, .int 0), (0, .long 0), (2, .int a2)]) (st2 := [.long 0, .long 0]) jF_309_18 rfl rfl) ?_
  refine Eq.trans (jr_s (pc2 := 20) (lv2 := [(4, .int 22), (3, .int 0), (0, .long 0), (2, .int a2)]) (st2 := [.int 0]) jF_309_19 rfl rfl) ?_
  refine Eq.trans (jr_if0 jF_309_20 (by decide +kernel)) ?_
  refine Eq.trans (jr_s (pc2 := 37) (lv2 := [(4, .int 22), (3, .int 0), (0, .long 0), (2, .int a2)]) (st2 := []) jF_309_23 rfl rfl) ?_
  refine Eq.trans (jr_s (pc2 := 40) (lv2 := [(4, .int 23), (3, .int 0), (0, .long 0), (2, .int a2)]) (st2 := []) jF_309_37 rfl rfl) ?_
  refine Eq.trans (jr_s (pc2 := 5) (lv2 := [(4, .int 23), (3, .int 0), (0, .long 0), (2, .int a2)]) (st2 := []) jF_309_40 rfl rfl) ?_
  refine Eq.trans (jr_s (pc2 := 7) (lv2 := [(4, .int 23), (3, .int 0), (0, .long 0), (2, .int a2)]) (st2 := [.int 23]) jF_309_5 rfl rfl) ?_
  refine Eq.trans (jr_s (pc2 := 9) (lv2 := [(4, .int 23), (3, .int 0), (0, .long 0), (2, .int a2)]) (st2 := [.int 64, .int 23]) jF_309_7 rfl rfl) ?_
  refine Eq.trans (jr_ic0 jF_309_9 (by decide +kernel)) ?_
  refine Eq.trans (jr_s (pc2 := 13) (lv2 := [(4, .int 23), (3, .int 0), (0, .long 0), (2, .int a2)]) (st2 := [.long 0]) jF_309_12 rfl rfl) ?_
  refine Eq.trans (jr_s (pc2 := 15) (lv2 := [(4, .int 23), (3, .int 0), (0, .long 0), (2, .int a2)]) (st2 := [.int 23, .long 0]) jF_309_13 rfl rfl) ?_
  refine Eq.trans (jr_s (pc2 := 16) (lv2 := [(4, .int 23), (3, .int 0), (0, .long 0), (2, .int a2)]) (st2 := [.long 0]) jF_309_15 rfl rfl) ?_
  refine Eq.trans (jr_s (pc2 := 17) (lv2 := [(4, .int 23), (3, .int 0), (0, .long 0), (2, .int a2)]) (st2 := [.long 1, .long 0]) jF_309_16 rfl rfl) ?_
  refine Eq.trans (jr_s (pc2 := 18) (lv2 := [(4, .int 23), (3, .int 0), (0, .long 0), (2, .int a2)]) (st2 := [.long 0]) jF_309_17 rfl rfl) ?_
  refine Eq.trans (jr_s (pc2 := 19) (lv2 := [(4, .int 23), (3, .int 0), (0, .long 0), (2, .int a2)]) (st2 := [.long 0, .long 0]) jF_309_18 rfl rfl) ?_
  refine Eq.trans (jr_s (pc2 := 20) (lv2 := [(4, .int 23), (3, .int 0), (0, .long 0), (2, .int a2)]) (st2 := [.int 0]) jF_309_19 rfl rfl) ?_
  refine Eq.trans (jr_if0 jF_309_20 (by decide +kernel)) ?_
  refine Eq.trans (jr_s (pc2 := 37) (lv2 := [(4, .int 23), (3, .int 0), (0, .long 0), (2, .int a2)]) (st2 := []) jF_309_23 rfl rfl) ?_
  refine Eq.trans (jr_s (pc2 := 40) (lv2 := [(4, .int 24), (3, .int 0), (0, .long 0), (2, .int a2)]) (st2 := []) jF_309_37 rfl rfl) ?_
  refine Eq.trans (jr_s (pc2 := 5) (lv2 := [(4, .int 24), (3, .int 0), (0, .long 0), (2, .int a2)]) (st2 := []) jF_309_40 rfl rfl) ?_
  refine Eq.trans (jr_s (pc2 := 7) (lv2 := [(4, .int 24), (3, .int 0), (0, .long 0), (2, .int a2)]) (st2 := [.int 24]) jF_309_5 rfl rfl) ?_
  refine Eq.trans (jr_s (pc2 := 9) (lv2 := [(4, .int 24), (3, .int 0), (0, .long 0), (2, .int a2)]) (st2 := [.int 64, .int 24]) jF_309_7 rfl rfl) ?_
  refine Eq.trans (jr_ic0 jF_309_9 (by decide +kernel)) ?_
  refine Eq.trans (jr_s (pc2 := 13) (lv2 := [(4, .int 24), (3, .int 0), (0, .long 0), (2, .int a2)]) (st2 := [.long 0]) jF_309_12 rfl rfl) ?_
  refine Eq.trans (jr_s (pc2 := 15) (lv2 := [(4, .int 24), (3, .int 0), (0, .long 0), (2, .int a2)]) (st2 := [.int 24, .long 0]) jF_309_13 rfl rfl) ?_
  refine Eq.trans (jr_s (pc2 := 16) (lv2 := [(4, .int 24), (3, .int 0), (0, .long 0), (2, .int a2)]) (st2 := [.long 0]) jF_309_15 rfl rfl) ?_
  refine Eq.trans (jr_s (pc2 := 17) (lv2 := [(4, .int 24), (3, .int 0), (0, .long 0), (2, .int a2)]) (st2 := [.long 1, .long 0]) jF_309_16 rfl rfl) ?_
  refine Eq.trans (jr_s (pc2 := 18) (lv2 := [(4, .int 24), (3, .int 0), (0, .long 0), (2, .int a2)]) (st2 := [.long 0]) jF_309_17 rfl rfl) ?_
  refine Eq.trans (jr_s (pc2 := 19) (lv2 := [(4, .int 24), (3, .int 0), (0, .long 0), (2, .int a2)]) (st2 := [.long 0, .long 0]) jF_309_18 rfl rfl) ?_
  refine Eq.trans (jr_s (pc2 := 20) (lv2 := [(4, .int 24), (3, .int 0), (0, .long 0), (2, .int a2)]) (st2 := [.int 0]) jF_309_19 rfl rfl) ?_
  refine Eq.trans (jr_if0 jF_309_20 (by decide +kernel)) ?_
  refine Eq.trans (jr_s (pc2 := 37) (lv2 := [(4, .int 24), (3, .int 0), (0, .long 0), (2, .int a2)]) (st2 := []) jF_309_23 rfl rfl) ?_
  refine Eq.trans (jr_s (pc2 := 40) (lv2 := [(4, .int 25), (3, .int 0), (0, .long 0), (2, .int a2)]) (st2 := []) jF_309_37 rfl rfl) ?_
  refine Eq.trans (jr_s (pc2 := 5) (lv2 := [(4, .int 25), (3, .int 0), (0, .long 0), (2, .int a2)]) (st2 := []) jF_309_40 rfl rfl) ?_
  refine Eq.trans (jr_s (pc2 := 7) (lv2 := [(4, .int 25), (3, .int 0), (0, .long 0), (2, .int a2)]) (st2 := [.int 25]) jF_309_5 rfl rfl) ?_
  refine Eq.trans (jr_s (pc2 := 9) (lv2 := [(4, .int 25), (3, .int 0), (0, .long 0), (2, .int a2)]) (st2 := [.int 64, .int 25]) jF_309_7 rfl rfl) ?_
  refine Eq.trans (jr_ic0 jF_309_9 (by decide +kernel)) ?_
  refine Eq.trans (jr_s (pc2 := 13) (lv2 := [(4, .int 25), (3, .int 0), (0, .long 0), (2, .int a2)]) (st2 := [.long 0]) jF_309_12 rfl rfl) ?_
  refine Eq.trans (jr_s (pc2 := 15) (lv2 := [(4, .int 25), (3, .int 0), (0, .long 0), (2, .int a2)]) (st2 := [.int 25, .long 0]) jF_309_13 rfl rfl) ?_
  refine Eq.trans (jr_s (pc2 := 16) (lv2 := [(4, .int 25), (3, .int 0), (0, .long 0), (2, .int a2)]) (st2 := [.long 0]) jF_309_15 rfl rfl) ?_
  refine Eq.trans (jr_s (pc2 := 17) (lv2 := [(4, .int 25), (3, .int 0), (0, .long 0), (2, .int a2)]) (st2 := [.long 1, .long 0]) jF_309_16 rfl rfl) ?_
  refine Eq.trans (jr_s (pc2 := 18) (lv2 := [(4, .int 25), (3, .int 0), (0, .long 0), (2, .int a2)]) (st2 := [.long 0]) jF_309_17 rfl rfl) ?_
  refine Eq.trans (jr_s (pc2 := 19) (lv2 := [(4, .int 25), (3, .int 0), (0, .long 0), (2, .int a2)]) (st2 := [.long 0, .long 0]) jF_309_18 rfl rfl) ?_
  refine Eq.trans (jr_s (pc2 := 20) (lv2 := [(4, .int 25), (3, .int 0), (0, .long 0), (2, .int a2)]) (st2 := [.int 0]) jF_309_19 rfl rfl) ?_
  refine Eq.trans (jr_if0 jF_309_20 (by decide +kernel)) ?_
  refine Eq.trans (jr_s (pc2 := 37) (lv2 := [(4, .int 25), (3, .int 0), (0, .long 0), (2, .int a2)]) (st2 := []) jF_309_23 rfl rfl) ?_
  refine Eq.trans (jr_s (pc2 := 40) (lv2 := [(4, .int 26), (3, .int 0), (0, .long 0), (2, .int a2)]) (st2 := []) jF_309_37 rfl rfl) ?_
  refine Eq.trans (jr_s (pc2 := 5) (lv2 := [(4, .int 26), (3, .int 0), (0, .long 0), (2, .int a2)]) (st2 := []) jF_309_40 rfl rfl) ?_
  refine Eq.trans (jr_s (pc2 := 7) (lv2 := [(4, .int 26), (3, .int 0), (0, .long 0), (2, .int a2)]) (st2 := [.int 26]) jF_309_5 rfl rfl) ?_
  refine Eq.trans (jr_s (pc2 := 9) (lv2 := [(4, .int 26), (3, .int 0), (0, .long 0), (2, .int a2)]) (st2 := [.int 64, .int 26]) jF_309_7 rfl rfl) ?_
  refine Eq.trans (jr_ic0 jF_309_9 (by decide +kernel)) ?_
  refine Eq.trans (jr_s (pc2 := 13) (lv2 := [(4, .int 26), (3, .int 0), (0, .long 0), (2, .int a2)]) (st2 := [.long 0]) jF_309_12 rfl rfl) ?_
  refine Eq.trans (jr_s (pc2 := 15) (lv2 := [(4, .int 26), (3, .int 0), (0, .long 0), (2, .int a2)]) (st2 := [.int 26, .long 0]) jF_309_13 rfl rfl) ?_
  refine Eq.trans (jr_s (pc2 := 16) (lv2 := [(4, .int 26), (3, .int 0), (0, .long 0), (2, .int a2)]) (st2 := [.long 0]) jF_309_15 rfl rfl) ?_
  refine Eq.trans (jr_s (pc2 := 17) (lv2 := [(4, .int 26), (3, .int 0), (0, .long 0), (2, .int a2)]) (st2 := [.long 1, .long 0]) jF_309_16 rfl rfl) ?_
  refine Eq.trans (jr_s (pc2 := 18) (lv2 := [(4, .int 26), (3, .int 0), (0, .long 0), (2, .int a2)]) (st2 := [.long 0]) jF_309_17 rfl rfl) ?_
  refine Eq.trans (jr_s (pc2 := 19) (lv2 := [(4, .int 26), (3, .int 0), (0, .long 0), (2, .int a2)]) (st2 := [.long 0, .long 0]) jF_309_18 rfl rfl) ?_
  refine Eq.trans (jr_s (pc2 := 20) (lv2 := [(4, .int 26), (3, .int 0), (0, .long 0), (2, .int a2)]) (st2 := [.int 0]) jF_309_19 rfl rfl) ?_
  refine Eq.trans (jr_if0 jF_309_20 (by decide +kernel)) ?_
  refine Eq.trans (jr_s (pc2 := 37) (lv2 := [(4, .int 26), (3, .int 0), (0, .long 0), (2, .int a2)]) (st2 := []) jF_309_23 rfl rfl) ?_
  refine Eq.trans (jr_s (pc2 := 40) (lv2 := [(4, .int 27), (3, .int 0), (0, .long 0), (2, .int a2)]) (st2 := []) jF_309_37 rfl rfl) ?_
  refine Eq.trans (jr_s (pc2 := 5) (lv2 := [(4, .int 27), (3, .int 0), (0, .long 0), (2, .int a2)]) (st2 := []) jF_309_40 rfl rfl) ?_
  refine Eq.trans (jr_s (pc2 := 7) (lv2 := [(4, .int 27), (3, .int 0), (0, .long 0), (2, .int a2)]) (st2 := [.int 27]) jF_309_5 rfl rfl) ?_
  refine Eq.trans (jr_s (pc2 := 9) (lv2 := [(4, .int 27), (3, .int 0), (0, .long 0), (2, .int a2)]) (st2 := [.int 64, .int 27]) jF_309_7 rfl rfl) ?_
  refine Eq.trans (jr_ic0 jF_309_9 (by decide +kernel)) ?_
  refine Eq.trans (jr_s (pc2 := 13) (lv2 := [(4, .int 27), (3, .int 0), (0, .long 0), (2, .int a2)]) (st2 := [.long 0]) jF_309_12 rfl rfl) ?_
  refine Eq.trans (jr_s (pc2 := 15) (lv2 := [(4, .int 27), (3, .int 0), (0, .long 0), (2, .int a2)]) (st2 := [.int 27, .long 0]) jF_309_13 rfl rfl) ?_
  refine Eq.trans (jr_s (pc2 := 16) (lv2 := [(4, .int 27), (3, .int 0), (0, .long 0), (2, .int a2)]) (st2 := [.long 0]) jF_309_15 rfl rfl) ?_
  refine Eq.trans (jr_s (pc2 := 17) (lv2 := [(4, .int 27), (3, .int 0), (0, .long 0), (2, .int a2)]) (st2 := [.long 1, .long 0]) jF_309_16 rfl rfl) ?_
  refine Eq.trans (jr_s (pc2 := 18) (lv2 := [(4, .int 27), (3, .int 0), (0, .long 0), (2, .int a2)]) (st2 := [.long 0]) jF_309_17 rfl rfl) ?_
  refine Eq.trans (jr_s (pc2 := 19) (lv2 := [(4, .int 27), (3, .int 0), (0, .long 0), (2, .int a2)]) (st2 := [.long 0, .long 0]) jF_309_18 rfl rfl) ?_
  refine Eq.trans (jr_s (pc2 := 20) (lv2 := [(4, .int 27), (3, .int 0), (0, .long 0), (2, .int a2)]) (st2 := [.int 0]) jF_309_19 rfl rfl) ?_
  refine Eq.trans (jr_if0 jF_309_20 (by decide +kernel)) ?_
  refine Eq.trans (jr_s (pc2 := 37) (lv2 := [(4, .int 27), (3, .int 0), (0, .long 0), (2, .int a2)]) (st2 := []) jF_309_23 rfl rfl) ?_
  refine Eq.trans (jr_s (pc2 := 40) (lv2 := [(4, .int 28), (3, .int 0), (0, .long 0), (2, .int a2)]) (st2 := []) jF_309_37 rfl rfl) ?_
  refine Eq.trans (jr_s (pc2 := 5) (lv2 := [(4, .int 28), (3, .int 0), (0, .long 0), (2, .int a2)]) (st2 := []) jF_309_40 rfl rfl) ?_
  refine Eq.trans (jr_s (pc2 := 7) (lv2 := [(4, .int 28), (3, .int 0), (0, .long 0), (2, .int a2)]) (st2 := [.int 28]) jF_309_5 rfl rfl) ?_
  refine Eq.trans (jr_s (pc2 := 9) (lv2 := [(4, .int 28), (3, .int 0), (0, .long 0), (2, .int a2)]) (st2 := [.int 64, .int 28]) jF_309_7 rfl rfl) ?_
  refine Eq.trans (jr_ic0 jF_309_9 (by decide +kernel)) ?_
  refine Eq.trans (jr_s (pc2 := 13) (lv2 := [(4, .int 28), (3, .int 0), (0, .long 0), (2, .int a2)]) (st2 := [.long 0]) jF_309_12 rfl rfl) ?_
  refine Eq.trans (jr_s (pc2 := 15) (lv2 := [(4, .int 28), (3, .int 0), (0, .long 0), (2, .int a2)]) (st2 := [.int 28, .long 0]) jF_309_13 rfl rfl) ?_
  refine Eq.trans (jr_s (pc2 := 16) (lv2 := [(4, .int 28), (3, .int 0), (0, .long 0), (2, .int a2)]) (st2 := [.long 0]) jF_309_15 rfl rfl) ?_
  refine Eq.trans (jr_s (pc2 := 17) (lv2 := [(4, .int 28), (3, .int 0), (0, .long 0), (2, .int a2)]) (st2 := [.long 1, .long 0]) jF_309_16 rfl rfl) ?_
  refine Eq.trans (jr_s (pc2 := 18) (lv2 := [(4, .int 28), (3, .int 0), (0, .long 0), (2, .int a2)]) (st2 := [.long 0]) jF_309_17 rfl rfl) ?_
  refine Eq.trans (jr_s (pc2 := 19) (lv2 := [(4, .int 28), (3, .int 0), (0, .long 0), (2, .int a2)]) (st2 := [.long 0, .long 0]) jF_309_18 rfl rfl) ?_
  refine Eq.trans (jr_s (pc2 := 20) (lv2 := [(4, .int 28), (3, .int 0), (0, .long 0), (2, .int a2)]) (st2 := [.int 0]) jF_309_19 rfl rfl) ?_
  refine Eq.trans (jr_if0 jF_309_20 (by decide +kernel)) ?_
  refine Eq.trans (jr_s (pc2 := 37) (lv2 := [(4, .int 28), (3, .int 0), (0, .long 0), (2, .int a2)]) (st2 := []) jF_309_23 rfl rfl) ?_
  refine Eq.trans (jr_s (pc2 := 40) (lv2 := [(4, .int 29), (3, .int 0), (0, .long 0), (2, .int a2)]) (st2 := []) jF_309_37 rfl rfl) ?_
  refine Eq.trans (jr_s (pc2 := 5) (lv2 := [(4, .int 29), (3, .int 0), (0, .long 0), (2, .int a2)]) (st2 := []) jF_309_40 rfl rfl) ?_
  refine Eq.trans (jr_s (pc2 := 7) (lv2 := [(4, .int 29), (3, .int 0), (0, .long 0), (2, .int a2)]) (st2 := [.int 29]) jF_309_5 rfl rfl) ?_
  refine Eq.trans (jr_s (pc2 := 9) (lv2 := [(4, .int 29), (3, .int 0), (0, .long 0), (2, .int a2)]) (st2 := [.int 64, .int 29]) jF_309_7 rfl rfl) ?_
  refine Eq.trans (jr_ic0 jF_309_9 (by decide +kernel)) ?_
  refine Eq.trans (jr_s (pc2 := 13) (lv2 := [(4, .int 29), (3, .int 0), (0, .long 0), (2, .int a2)]) (st2 := [.long 0]) jF_309_12 rfl rfl) ?_
  refine Eq.trans (jr_s (pc2 := 15) (lv2 := [(4, .int 29), (3, .int 0), (0, .long 0), (2, .int a2)]) (st2 := [.int 29, .long 0]) jF_309_13 rfl rfl) ?_
  refine Eq.trans (jr_s (pc2 := 16) (lv2 := [(4, .int 29), (3, .int 0), (0, .long 0), (2, .int a2)]) (st2 := [.long 0]) jF_309_15 rfl rfl) ?_
  refine Eq.trans (jr_s (pc2 := 17) (lv2 := [(4, .int 29), (3, .int 0), (0, .long 0), (2, .int a2)]) (st2 := [.long 1, .long 0]) jF_309_16 rfl rfl) ?_
  refine Eq.trans (jr_s (pc2 := 18) (lv2 := [(4, .int 29), (3, .int 0), (0, .long 0), (2, .int a2)]) (st2 := [.long 0]) jF_309_17 rfl rfl) ?_
  refine Eq.trans (jr_s (pc2 := 19) (lv2 := [(4, .int 29), (3, .int 0), (0, .long 0), (2, .int a2)]) (st2 := [.long 0, .long 0]) jF_309_18 rfl rfl) ?_
  refine Eq.trans (jr_s (pc2 := 20) (lv2 := [(4, .int 29), (3, .int 0), (0, .long 0), (2, .int a2)]) (st2 := [.int 0]) jF_309_19 rfl rfl) ?_
  refine Eq.trans (jr_if0 jF_309_20 (by decide +kernel)) ?_
  refine Eq.trans (jr_s (pc2 := 37) (lv2 := [(4, .int 29), (3, .int 0), (0, .long 0), (2, .int a2)]) (st2 := []) jF_309_23 rfl rfl) ?_
  refine Eq.trans (jr_s (pc2 := 40) (lv2 := [(4, .int 30), (3, .int 0), (0, .long 0), (2, .int a2)]) (st2 := []) jF_309_37 rfl rfl) ?_
  refine Eq.trans (jr_s (pc2 := 5) (lv2 := [(4, .int 30), (3, .int 0), (0, .long 0), (2, .int a2)]) (st2 := []) jF_309_40 rfl rfl) ?_
  refine Eq.trans (jr_s (pc2 := 7) (lv2 := [(4, .int 30), (3, .int 0), (0, .long 0), (2, .int a2)]) (st2 := [.int 30]) jF_309_5 rfl rfl) ?_
  refine Eq.trans (jr_s (pc2 := 9) (lv2 := [(4, .int 30), (3, .int 0), (0, .long 0), (2, .int a2)]) (st2 := [.int 64, .int 30]) jF_309_7 rfl rfl) ?_
  refine Eq.trans (jr_ic0 jF_309_9 (by decide +kernel)) ?_
  refine Eq.trans (jr_s (pc2 := 13) (lv2 := [(4, .int 30), (3, .int 0), (0, .long 0), (2, .int a2)]) (st2 := [.long 0]) jF_309_12 rfl rfl) ?_
  refine Eq.trans (jr_s (pc2 := 15) (lv2 := [(4, .int 30), (3, .int 0), (0, .long 0), (2, .int a2)]) (st2 := [.int 30, .long 0]) jF_309_13 rfl rfl) ?_
  refine Eq.trans (jr_s (pc2 := 16) (lv2 := [(4, .int 30), (3, .int 0), (0, .long 0), (2, .int a2)]) (st2 := [.long 0]) jF_309_15 rfl rfl) ?_
  refine Eq.trans (jr_s (pc2 := 17) (lv2 := [(4, .int 30), (3, .int 0), (0, .long 0), (2, .int a2)]) (st2 := [.long 1, .long 0]) jF_309_16 rfl rfl) ?_
  refine Eq.trans (jr_s (pc2 := 18) (lv2 := [(4, .int 30), (3, .int 0), (0, .long 0), (2, .int a2)]) (st2 := [.long 0]) jF_309_17 rfl rfl) ?_
  refine Eq.trans (jr_s (pc2 := 19) (lv2 := [(4, .int 30), (3, .int 0), (0, .long 0), (2, .int a2)]) (st2 := [.long 0, .long 0]) jF_309_18 rfl rfl) ?_
  refine Eq.trans (jr_s (pc2 := 20) (lv2 := [(4, .int 30), (3, .int 0), (0, .long 0), (2, .int a2)]) (st2 := [.int 0]) jF_309_19 rfl rfl) ?_
  refine Eq.trans (jr_if0 jF_309_20 (by decide +kernel)) ?_
  refine Eq.trans (jr_s (pc2 := 37) (lv2 := [(4, .int 30), (3, .int 0), (0, .long 0), (2, .int a2)]) (st2 := []) jF_309_23 rfl rfl) ?_
  refine Eq.trans (jr_s (pc2 := 40) (lv2 := [(4, .int 31), (3, .int 0), (0, .long 0), (2, .int a2)]) (st2 := []) jF_309_37 rfl rfl) ?_
  refine Eq.trans (jr_s (pc2 := 5) (lv2 := [(4, .int 31), (3, .int 0), (0, .long 0), (2, .int a2)]) (st2 := []) jF_309_40 rfl rfl) ?_
  refine Eq.trans (jr_s (pc2 := 7) (lv2 := [(4, .int 31), (3, .int 0), (0, .long 0), (2, .int a2)]) (st2 := [.int 31]) jF_309_5 rfl rfl) ?_
  refine Eq.trans (jr_s (pc2 := 9) (lv2 := [(4, .int 31), (3, .int 0), (0, .long 0), (2, .int a2)]) (st2 := [.int 64, .int 31]) jF_309_7 rfl rfl) ?_
  refine Eq.trans (jr_ic0 jF_309_9 (by decide +kernel)) ?_
  refine Eq.trans (jr_s (pc2 := 13) (lv2 := [(4, .int 31), (3, .int 0), (0, .long 0), (2, .int a2)]) (st2 := [.long 0]) jF_309_12 rfl rfl) ?_
  refine Eq.trans (jr_s (pc2 := 15) (lv2 := [(4, .int 31), (3, .int 0), (0, .long 0), (2, .int a2)]) (st2 := [.int 31, .long 0]) jF_309_13 rfl rfl) ?_
  refine Eq.trans (jr_s (pc2 := 16) (lv2 := [(4, .int 31), (3, .int 0), (0, .long 0), (2, .int a2)]) (st2 := [.long 0]) jF_309_15 rfl rfl) ?_
  refine Eq.trans (jr_s (pc2 := 17) (lv2 := [(4, .int 31), (3, .int 0), (0, .long 0), (2, .int a2)]) (st2 := [.long 1, .long 0]) jF_309_16 rfl rfl) ?_
  refine Eq.trans (jr_s (pc2 := 18) (lv2 := [(4, .int 31), (3, .int 0), (0, .long 0), (2, .int a2)]) (st2 := [.long 0]) jF_309_17 rfl rfl) ?_
  refine Eq.trans (jr_s (pc2 := 19) (lv2 := [(4, .int 31), (3, .int 0), (0, .long 0), (2, .int a2)]) (st2 := [.long 0, .long 0]) jF_309_18 rfl rfl) ?_
  refine Eq.trans (jr_s (pc2 := 20) (lv2 := [(4, .int 31), (3, .int 0), (0, .long 0), (2, .int a2)]) (st2 := [.int 0]) jF_309_19 rfl rfl) ?_
  refine Eq.trans (jr_if0 jF_309_20 (by decide +kernel)) ?_
  refine Eq.trans (jr_s (pc2 := 37) (lv2 := [(4, .int 31), (3, .int 0), (0, .long 0), (2, .int a2)]) (st2 := []) jF_309_23 rfl rfl) ?_
  refine Eq.trans (jr_s (pc2 := 40) (lv2 := [(4, .int 32), (3, .int 0), (0, .long 0), (2, .int a2)]) (st2 := []) jF_309_37 rfl rfl) ?_
  refine Eq.trans (jr_s (pc2 := 5) (lv2 := [(4, .int 32), (3, .int 0), (0, .long 0), (2, .int a2)]) (st2 := []) jF_309_40 rfl rfl) ?_
  refine Eq.trans (jr_s (pc2 := 7) (lv2 := [(4, .int 32), (3, .int 0), (0, .long 0), (2, .int a2)]) (st2 := [.int 32]) jF_309_5 rfl rfl) ?_
  refine Eq.trans (jr_s (pc2 := 9) (lv2 := [(4, .int 32), (3, .int 0), (0, .long 0), (2, .int a2)]) (st2 := [.int 64, .int 32]) jF_309_7 rfl rfl) ?_
  refine Eq.trans (jr_ic0 jF_309_9 (by decide +kernel)) ?_
  refine Eq.trans (jr_s (pc2 := 13) (lv2 := [(4, .int 32), (3, .int 0), (0, .long 0), (2, .int a2)]) (st2 := [.long 0]) jF_309_12 rfl rfl) ?_
  refine Eq.trans (jr_s (pc2 := 15) (lv2 := [(4, .int 32), (3, .int 0), (0, .long 0), (2, .int a2)]) (st2 := [.int 32, .long 0]) jF_309_13 rfl rfl) ?_
  refine Eq.trans (jr_s (pc2 := 16) (lv2 := [(4, .int 32), (3, .int 0), (0, .long 0), (2, .int a2)]) (st2 := [.long 0]) jF_309_15 rfl rfl) ?_
  refine Eq.trans (jr_s (pc2 := 17) (lv2 := [(4, .int 32), (3, .int 0), (0, .long 0), (2, .int a2)]) (st2 := [.long 1, .long 0]) jF_309_16 rfl rfl) ?_
  refine Eq.trans (jr_s (pc2 := 18) (lv2 := [(4, .int 32), (3, .int 0), (0, .long 0), (2, .int a2)]) (st2 := [.long 0]) jF_309_17 rfl rfl) ?_
  refine Eq.trans (jr_s (pc2 := 19) (lv2 := [(4, .int 32), (3, .int 0), (0, .long 0), (2, .int a2)]) (st2 := [.long 0, .long 0]) jF_309_18 rfl rfl) ?_
  refine Eq.trans (jr_s (pc2 := 20) (lv2 := [(4, .int 32), (3, .int 0), (0, .long 0), (2, .int a2)]) (st2 := [.int 0]) jF_309_19 rfl rfl) ?_
  refine Eq.trans (jr_if0 jF_309_20 (by decide +kernel)) ?_
  refine Eq.trans (jr_s (pc2 := 37) (lv2 := [(4, .int 32), (3, .int 0), (0, .long 0), (2, .int a2)]) (st2 := []) jF_309_23 rfl rfl) ?_
  refine Eq.trans (jr_s (pc2 := 40) (lv2 := [(4, .int 33), (3, .int 0), (0, .long 0), (2, .int a2)]) (st2 := []) jF_309_37 rfl rfl) ?_
  refine Eq.trans (jr_s (pc2 := 5) (lv2 := [(4, .int 33), (3, .int 0), (0, .long 0), (2, .int a2)]) (st2 := []) jF_309_40 rfl rfl) ?_
  refine Eq.trans (jr_s (pc2 := 7) (lv2 := [(4, .int 33), (3, .int 0), (0, .long 0), (2, .int a2)]) (st2 := [.int 33]) jF_309_5 rfl rfl) ?_
  refine Eq.trans (jr_s (pc2 := 9) (lv2 := [(4, .int 33), (3, .int 0), (0, .long 0), (2, .int a2)]) (st2 := [.int 64, .int 33]) jF_309_7 rfl rfl) ?_
  refine Eq.trans (jr_ic0 jF_309_9 (by decide +kernel)) ?_
  refine Eq.trans (jr_s (pc2 := 13) (lv2 := [(4, .int 33), (3, .int 0), (0, .long 0), (2, .int a2)]) (st2 := [.long 0]) jF_309_12 rfl rfl) ?_
  refine Eq.trans (jr_s (pc2 := 15) (lv2 := [(4, .int 33), (3, .int 0), (0, .long 0), (2, .int a2)]) (st2 := [.int 33, .long 0]) jF_309_13 rfl rfl) ?_
  refine Eq.trans (jr_s (pc2 := 16) (lv2 := [(4, .int 33), (3, .int 0), (0, .long 0), (2, .int a2)]) (st2 := [.long 0]) jF_309_15 rfl rfl) ?_
  refine Eq.trans (jr_s (pc2 := 17) (lv2 := [(4, .int 33), (3, .int 0), (0, .long 0), (2, .int a2)]) (st2 := [.long 1, .long 0]) jF_309_16 rfl rfl) ?_
  refine Eq.trans (jr_s (pc2 := 18) (lv2 := [(4, .int 33), (3, .int 0), (0, .long 0), (2, .int a2)]) (st2 := [.long 0]) jF_309_17 rfl rfl) ?_
  refine Eq.trans (jr_s (pc2 := 19) (lv2 := [(4, .int 33), (3, .int 0), (0, .long 0), (2, .int a2)]) (st2 := [.long 0, .long 0]) jF_309_18 rfl rfl) ?_
  refine Eq.trans (jr_s (pc2 := 20) (lv2 := [(4, .int 33), (3, .int 0), (0, .long 0), (2, .int a2)]) (st2 := [.int 0]) jF_309_19 rfl rfl) ?_
  refine Eq.trans (jr_if0 jF_309_20 (by decide +kernel)) ?_
  refine Eq.trans (jr_s (pc2 := 37) (lv2 := [(4, .int 33), (3, .int 0), (0, .long 0), (2, .int a2)]) (st2 := []) jF_309_23 rfl rfl) ?_
  refine Eq.trans (jr_s (pc2 := 40) (lv2 := [(4, .int 34), (3, .int 0), (0, .long 0), (2, .int a2)]) (st2 := []) jF_309_37 rfl rfl) ?_
  refine Eq.trans (jr_s (pc2 := 5) (lv2 := [(4, .int 34), (3, .int 0), (0, .long 0), (2, .int a2)]) (st2 := []) jF_309_40 rfl rfl) ?_
  refine Eq.trans (jr_s (pc2 := 7) (lv2 := [(4, .int 34), (3, .int 0), (0, .long 0), (2, .int a2)]) (st2 := [.int 34]) jF_309_5 rfl rfl) ?_
  refine Eq.trans (jr_s (pc2 := 9) (lv2 := [(4, .int 34), (3, .int 0), (0, .long 0), (2, .int a2)]) (st2 := [.int 64, .int 34]) jF_309_7 rfl rfl) ?_
  refine Eq.trans (jr_ic0 jF_309_9 (by decide +kernel)) ?_
  refine Eq.trans (jr_s (pc2 := 13) (lv2 := [(4, .int 34), (3, .int 0), (0, .long 0), (2, .int a2)]) (st2 := [.long 0]) jF_309_12 rfl rfl) ?_
  refine Eq.trans (jr_s (pc2 := 15) (lv2 := [(4, .int 34), (3, .int 0), (0, .long 0), (2, .int a2)]) (st2 := [.int 34, .long 0]) jF_309_13 rfl rfl) ?_
  refine Eq.trans (jr_s (pc2 := 16) (lv2 := [(4, .int 34), (3, .int 0), (0, .long 0), (2, .int a2)]) (st2 := [.long 0]) jF_309_15 rfl rfl) ?_
  refine Eq.trans (jr_s (pc2 := 17) (lv2 := [(4, .int 34), (3, .int 0), (0, .long 0), (2, .int a2)]) (st2 := [.long 1, .long 0]) jF_309_16 rfl rfl) ?_
  refine Eq.trans (jr_s (pc2 := 18) (lv2 := [(4, .int 34), (3, .int 0), (0, .long 0), (2, .int a2)]) (st2 := [.long 0]) jF_309_17 rfl rfl) ?_
  refine Eq.trans (jr_s (pc2 := 19) (lv2 := [(4, .int 34), (3, .int 0), (0, .long 0), (2, .int a2)]) (st2 := [.long 0, .long 0]) jF_309_18 rfl rfl) ?_
  refine Eq.trans (jr_s (pc2 := 20) (lv2 := [(4, .int 34), (3, .int 0), (0, .long 0), (2, .int a2)]) (st2 := [.int 0]) jF_309_19 rfl rfl) ?_
  refine Eq.trans (jr_if0 jF_309_20 (by decide +kernel)) ?_
  refine Eq.trans (jr_s (pc2 := 37) (lv2 := [(4, .int 34), (3, .int 0), (0, .long 0), (2, .int a2)]) (st2 := []) jF_309_23 rfl rfl) ?_
  refine Eq.trans (jr_s (pc2 := 40) (lv2 := [(4, .int 35), (3, .int 0), (0, .long 0), (2, .int a2)]) (st2 := []) jF_309_37 rfl rfl) ?_
  refine Eq.trans (jr_s (pc2 := 5) (lv2 := [(4, .int 35), (3, .int 0), (0, .long 0), (2, .int a2)]) (st2 := []) jF_309_40 rfl rfl) ?_
  refine Eq.trans (jr_s (pc2 := 7) (lv2 := [(4, .int 35), (3, .int 0), (0, .long 0), (2, .int a2)]) (st2 := [.int 35]) jF_309_5 rfl rfl) ?_
  refine Eq.trans (jr_s (pc2 := 9) (lv2 := [(4, .int 35), (3, .int 0), (0, .long 0), (2, .int a2)]) (st2 := [.int 64, .int 35]) jF_309_7 rfl rfl) ?_
  refine Eq.trans (jr_ic0 jF_309_9 (by decide +kernel)) ?_
  refine Eq.trans (jr_s (pc2 := 13) (lv2 := [(4, .int 35), (3, .int 0), (0, .long 0), (2, .int a2)]) (st2 := [.long 0]) jF_309_12 rfl rfl) ?_
  refine Eq.trans (jr_s (pc2 := 15) (lv2 := [(4, .int 35), (3, .int 0), (0, .long 0), (2, .int a2)]) (st2 := [.int 35, .long 0]) jF_309_13 rfl rfl) ?_
  refine Eq.trans (jr_s (pc2 := 16) (lv2 := [(4, .int 35), (3, .int 0), (0, .long 0), (2, .int a2)]) (st2 := [.long 0]) jF_309_15 rfl rfl) ?_
  refine Eq.trans (jr_s (pc2 := 17) (lv2 := [(4, .int 35), (3, .int 0), (0, .long 0), (2, .int a2)]) (st2 := [.long 1, .long 0]) jF_309_16 rfl rfl) ?_
  refine Eq.trans (jr_s (pc2 := 18) (lv2 := [(4, .int 35), (3, .int 0), (0, .long 0), (2, .int a2)]) (st2 := [.long 0]) jF_309_17 rfl rfl) ?_
  refine Eq.trans (jr_s (pc2 := 19) (lv2 := [(4, .int 35), (3, .int 0), (0, .long 0), (2, .int a2)]) (st2 := [.long 0, .long 0]) jF_309_18 rfl rfl) ?_
  refine Eq.trans (jr_s (pc2 := 20) (lv2 := [(4, .int 35), (3, .int 0), (0, .long 0), (2, .int a2)]) (st2 := [.int 0]) jF_309_19 rfl rfl) ?_
  refine Eq.trans (jr_if0 jF_309_20 (by decide +kernel)) ?_
  refine Eq.trans (jr_s (pc2 := 37) (lv2 := [(4, .int 35), (3, .int 0), (0, .long 0), (2, .int a2)]) (st2 := []) jF_309_23 rfl rfl) ?_
  refine Eq.trans (jr_s (pc2 := 40) (lv2 := [(4, .int 36), (3, .int 0), (0, .long 0), (2, .int a2)]) (st2 := []) jF_309_37 rfl rfl) ?_
  refine Eq.trans (jr_s (pc2 := 5) (lv2 := [(4, .int 36), (3, .int 0), (0, .long 0), (2, .int a2)]) (st2 := []) jF_309_40 rfl rfl) ?_
  refine Eq.trans (jr_s (pc2 := 7) (lv2 := [(4, .int 36), (3, .int 0), (0, .long 0), (2, .int a2)]) (st2 := [.int 36]) jF_309_5 rfl rfl) ?_
  refine Eq.trans (jr_s (pc2 := 9) (lv2 := [(4, .int 36), (3, .int 0), (0, .long 0), (2, .int a2)]) (st2 := [.int 64, .int 36]) jF_309_7 rfl rfl) ?_
  refine Eq.trans (jr_ic0 jF_309_9 (by decide +kernel)) ?_
  refine Eq.trans (jr_s (pc2 := 13) (lv2 := [(4, .int 36), (3, .int 0), (0, .long 0), (2, .int a2)]) (st2 := [.long 0]) jF_309_12 rfl rfl) ?_
  refine Eq.trans (jr_s (pc2 := 15) (lv2 := [(4, .int 36), (3, .int 0), (0, .long 0), (2, .int a2)]) (st2 := [.int 36, .long 0]) jF_309_13 rfl rfl) ?_
  refine Eq.trans (jr_s (pc2 := 16) (lv2 := [(4, .int 36), (3, .int 0), (0, .long 0), (2, .int a2)]) (st2 := [.long 0]) jF_309_15 rfl rfl) ?_
  refine Eq.trans (jr_s (pc2 := 17) (lv2 := [(4, .int 36), (3, .int 0), (0, .long 0), (2, .int a2)]) (st2 := [.long 1, .long 0]) jF_309_16 rfl rfl) ?_
  refine Eq.trans (jr_s (pc2 := 18) (lv2 := [(4, .int 36), (3, .int 0), (0, .long 0), (2, .int a2)]) (st2 := [.long 0]) jF_309_17 rfl rfl) ?_
  refine Eq.trans (jr_s (pc2 := 19) (lv2 := [(4, .int 36), (3, .int 0), (0, .long 0), (2, .int a2)]) (st2 := [.long 0, .long 0]) jF_309_18 rfl rfl) ?_
  refine Eq.trans (jr_s (pc2 := 20) (lv2 := [(4, .int 36), (3, .int 0), (0, .long 0), (2, .int a2)]) (st2 := [.int 0]) jF_309_19 rfl rfl) ?_
  refine Eq.trans (jr_if0 jF_309_20 (by decide +kernel)) ?_
  refine Eq.trans (jr_s (pc2 := 37) (lv2 := [(4, .int 36), (3, .int 0), (0, .long 0), (2, .int a2)]) (st2 := []) jF_309_23 rfl rfl) ?_
  refine Eq.trans (jr_s (pc2 := 40) (lv2 := [(4, .int 37), (3, .int 0), (0, .long 0), (2, .int a2)]) (st2 := []) jF_309_37 rfl rfl) ?_
  refine Eq.trans (jr_s (pc2 := 5) (lv2 := [(4, .int 37), (3, .int 0), (0, .long 0), (2, .int a2)]) (st2 := []) jF_309_40 rfl rfl) ?_
  refine Eq.trans (jr_s (pc2 := 7) (lv2 := [(4, .int 37), (3, .int 0), (0, .long 0), (2, .int a2)]) (st2 := [.int 37]) jF_309_5 rfl rfl) ?_
  refine Eq.trans (jr_s (pc2 := 9) (lv2 := [(4, .int 37), (3, .int 0), (0, .long 0), (2, .int a2)]) (st2 := [.int 64, .int 37]) jF_309_7 rfl rfl) ?_
  refine Eq.trans (jr_ic0 jF_309_9 (by decide +kernel)) ?_
  refine Eq.trans (jr_s (pc2 := 13) (lv2 := [(4, .int 37), (3, .int 0), (0, .long 0), (2, .int a2)]) (st2 := [.long 0]) jF_309_12 rfl rfl) ?_
  refine Eq.trans (jr_s (pc2 := 15) (lv2 := [(4, .int 37), (3, .int 0), (0, .long 0), (2, .int a2)]) (st2 := [.int 37, .long 0]) jF_309_13 rfl rfl) ?_
  refine Eq.trans (jr_s (pc2 := 16) (lv2 := [(4, .int 37), (3, .int 0), (0, .long 0), (2, .int a2)]) (st2 := [.long 0]) jF_309_15 rfl rfl) ?_
  refine Eq.trans (jr_s (pc2 := 17) (lv2 := [(4, .int 37), (3, .int 0), (0, .long 0), (2, .int a2)]) (st2 := [.long 1, .long 0]) jF_309_16 rfl rfl) ?_
  refine Eq.trans (jr_s (pc2 := 18) (lv2 := [(4, .int 37), (3, .int 0), (0, .long 0), (2, .int a2)]) (st2 := [.long 0]) jF_309_17 rfl rfl) ?_
  refine Eq.trans (jr_s (pc2 := 19) (lv2 := [(4, .int 37), (3, .int 0), (0, .long 0), (2, .int a2)]) (st2 := [.long 0, .long 0]) jF_309_18 rfl rfl) ?_
  refine Eq.trans (jr_s (pc2 := 20) (lv2 := [(4, .int 37), (3, .int 0), (0, .long 0), (2, .int a2)]) (st2 := [.int 0]) jF_309_19 rfl rfl) ?_
  refine Eq.trans (jr_if0 jF_309_20 (by decide +kernel)) ?_
  refine Eq.trans (jr_s (pc2 := 37) (lv2 := [(4, .int 37), (3, .int 0), (0, .long 0), (2, .int a2)]) (st2 := []) jF_309_23 rfl rfl) ?_
  refine Eq.trans (jr_s (pc2 := 40) (lv2 := [(4, .int 38), (3, .int 0), (0, .long 0), (2, .int a2)]) (st2 := []) jF_309_37 rfl rfl) ?_
  refine Eq.trans (jr_s (pc2 := 5) (lv2 := [(4, .int 38), (3, .int 0), (0, .long 0), (2, .int a2)]) (st2 := []) jF_309_40 rfl rfl) ?_
  refine Eq.trans (jr_s (pc2 := 7) (lv2 := [(4, .int 38), (3, .int 0), (0, .long 0), (2, .int a2)]) (st2 := [.int 38]) jF_309_5 rfl rfl) ?_
  refine Eq.trans (jr_s (pc2 := 9) (lv2 := [(4, .int 38), (3, .int 0), (0, .long 0), (2, .int a2)]) (st2 := [.int 64, .int 38]) jF_309_7 rfl rfl) ?_
  refine Eq.trans (jr_ic0 jF_309_9 (by decide +kernel)) ?_
  refine Eq.trans (jr_s (pc2 := 13) (lv2 := [(4, .int 38), (3, .int 0), (0, .long 0), (2, .int a2)]) (st2 := [.long 0]) jF_309_12 rfl rfl) ?_
  refine Eq.trans (jr_s (pc2 := 15) (lv2 := [(4, .int 38), (3, .int 0), (0, .long 0), (2, .int a2)]) (st2 := [.int 38, .long 0]) jF_309_13 rfl rfl) ?_
  refine Eq.trans (jr_s (pc2 := 16) (lv2 := [(4, .int 38), (3, .int 0), (0, .long 0), (2, .int a2)]) (st2 := [.long 0]) jF_309_15 rfl rfl) ?_
  refine Eq.trans (jr_s (pc2 := 17) (lv2 := [(4, .int 38), (3, .int 0), (0, .long 0), (2, .int a2)]) (st2 := [.long 1, .long 0]) jF_309_16 rfl rfl) ?_
  refine Eq.trans (jr_s (pc2 := 18) (lv2 := [(4, .int 38), (3, .int 0), (0, .long 0), (2, .int a2)]) (st2 := [.long 0]) jF_309_17 rfl rfl) ?_
  refine Eq.trans (jr_s (pc2 := 19) (lv2 := [(4, .int 38), (3, .int 0), (0, .long 0), (2, .int a2)]) (st2 := [.long 0, .long 0]) jF_309_18 rfl rfl) ?_
  refine Eq.trans (jr_s (pc2 := 20) (lv2 := [(4, .int 38), (3, .int 0), (0, .long 0), (2, .int a2)]) (st2 := [.int 0]) jF_309_19 rfl rfl) ?_
  refine Eq.trans (jr_if0 jF_309_20 (by decide +kernel)) ?_
  refine Eq.trans (jr_s (pc2 := 37) (lv2 := [(4, .int 38), (3, .int 0), (0, .long 0), (2, .int a2)]) (st2 := []) jF_309_23 rfl rfl) ?_
  refine Eq.trans (jr_s (pc2 := 40) (lv2 := [(4, .int 39), (3, .int 0), (0, .long 0), (2, .int a2)]) (st2 := []) jF_309_37 rfl rfl) ?_
  refine Eq.trans (jr_s (pc2 := 5) (lv2 := [(4, .int 39), (3, .int 0), (0, .long 0), (2, .int a2)]) (st2 := []) jF_309_40 rfl rfl) ?_
  refine Eq.trans (jr_s (pc2 := 7) (lv2 := [(4, .int 39), (3, .int 0), (0, .long 0), (2, .int a2)]) (st2 := [.int 39]) jF_309_5 rfl rfl) ?_
  refine Eq.trans (jr_s (pc2 := 9) (lv2 := [(4, .int 39), (3, .int 0), (0, .long 0), (2, .int a2)]) (st2 := [.int 64, .int 39]) jF_309_7 rfl rfl) ?_
  refine Eq.trans (jr_ic0 jF_309_9 (by decide +kernel)) ?_
  refine Eq.trans (jr_s (pc2 := 13) (lv2 := [(4, .int 39), (3, .int 0), (0, .long 0), (2, .int a2)]) (st2 := [.long 0]) jF_309_12 rfl rfl) ?_
  refine Eq.trans (jr_s (pc2 := 15) (lv2 := [(4, .int 39), (3, .int 0), (0, .long 0), (2, .int a2)]) (st2 := [.int 39, .long 0]) jF_309_13 rfl rfl) ?_
  refine Eq.trans (jr_s (pc2 := 16) (lv2 := [(4, .int 39), (3, .int 0), (0, .long 0), (2, .int a2)]) (st2 := [.long 0]) jF_309_15 rfl rfl) ?_
  refine Eq.trans (jr_s (pc2 := 17) (lv2 := [(4, .int 39), (3, .int 0), (0, .long 0), (2, .int a2)]) (st2 := [.long 1, .long 0]) jF_309_16 rfl rfl) ?_
  refine Eq.trans (jr_s (pc2 := 18) (lv2 := [(4, .int 39), (3, .int 0), (0, .long 0), (2, .int a2)]) (st2 := [.long 0]) jF_309_17 rfl rfl) ?_
  refine Eq.trans (jr_s (pc2 := 19) (lv2 := [(4, .int 39), (3, .int 0), (0, .long 0), (2, .int a2)]) (st2 := [.long 0, .long 0]) jF_309_18 rfl rfl) ?_
  refine Eq.trans (jr_s (pc2 := 20) (lv2 := [(4, .int 39), (3, .int 0), (0, .long 0), (2, .int a2)]) (st2 := [.int 0]) jF_309_19 rfl rfl) ?_
  refine Eq.trans (jr_if0 jF_309_20 (by decide +kernel)) ?_
  refine Eq.trans (jr_s (pc2 := 37) (lv2 := [(4, .int 39), (3, .int 0), (0, .long 0), (2, .int a2)]) (st2 := []) jF_309_23 rfl rfl) ?_
  refine Eq.trans (jr_s (pc2 := 40) (lv2 := [(4, .int 40), (3, .int 0), (0, .long 0), (2, .int a2)]) (st2 := []) jF_309_37 rfl rfl) ?_
  refine Eq.trans (jr_s (pc2 := 5) (lv2 := [(4, .int 40), (3, .int 0), (0, .long 0), (2, .int a2)]) (st2 := []) jF_309_40 rfl rfl) ?_
  refine Eq.trans (jr_s (pc2 := 7) (lv2 := [(4, .int 40), (3, .int 0), (0, .long 0), (2, .int a2)]) (st2 := [.int 40]) jF_309_5 rfl rfl) ?_
  refine Eq.trans (jr_s (pc2 := 9) (lv2 := [(4, .int 40), (3, .int 0), (0, .long 0), (2, .int a2)]) (st2 := [.int 64, .int 40]) jF_309_7 rfl rfl) ?_
  refine Eq.trans (jr_ic0 jF_309_9 (by decide +kernel)) ?_
  refine Eq.trans (jr_s (pc2 := 13) (lv2 := [(4, .int 40), (3, .int 0), (0, .long 0), (2, .int a2)]) (st2 := [.long 0]) jF_309_12 rfl rfl) ?_
  refine Eq.trans (jr_s (pc2 := 15) (lv2 := [(4, .int 40), (3, .int 0), (0, .long 0), (2, .int a2)]) (st2 := [.int 40, .long 0]) jF_309_13 rfl rfl) ?_
  refine Eq.trans (jr_s (pc2 := 16) (lv2 := [(4, .int 40), (3, .int 0), (0, .long 0), (2, .int a2)]) (st2 := [.long 0]) jF_309_15 rfl rfl) ?_
  refine Eq.trans (jr_s (pc2 := 17) (lv2 := [(4, .int 40), (3, .int 0), (0, .long 0), (2, .int a2)]) (st2 := [.long 1, .long 0]) jF_309_16 rfl rfl) ?_
  refine Eq.trans (jr_s (pc2 := 18) (lv2 := [(4, .int 40), (3, .int 0), (0, .long 0), (2, .int a2)]) (st2 := [.long 0]) jF_309_17 rfl rfl) ?_
  refine Eq.trans (jr_s (pc2 := 19) (lv2 := [(4, .int 40), (3, .int 0), (0, .long 0), (2, .int a2)]) (st2 := [.long 0, .long 0]) jF_309_18 rfl rfl) ?_
  refine Eq.trans (jr_s (pc2 := 20) (lv2 := [(4, .int 40), (3, .int 0), (0, .long 0), (2, .int a2)]) (st2 := [.int 0]) jF_309_19 rfl rfl) ?_
  refine Eq.trans (jr_if0 jF_309_20 (by decide +kernel)) ?_
  refine Eq.trans (jr_s (pc2 := 37) (lv2 := [(4, .int 40), (3, .int 0), (0, .long 0), (2, .int a2)]) (st2 := []) jF_309_23 rfl rfl) ?_
  refine Eq.trans (jr_s (pc2 := 40) (lv2 := [(4, .int 41), (3, .int 0), (0, .long 0), (2, .int a2)]) (st2 := []) jF_309_37 rfl rfl) ?_
  refine Eq.trans (jr_s (pc2 := 5) (lv2 := [(4, .int 41), (3, .int 0), (0, .long 0), (2, .int a2)]) (st2 := []) jF_309_40 rfl rfl) ?_
  refine Eq.trans (jr_s (pc2 := 7) (lv2 := [(4, .int 41), (3, .int 0), (0, .long 0), (2, .int a2)]) (st2 := [.int 41]) jF_309_5 rfl rfl) ?_
  refine Eq.trans (jr_s (pc2 := 9) (lv2 := [(4, .int 41), (3, .int 0), (0, .long 0), (2, .int a2)]) (st2 := [.int 64, .int 41]) jF_309_7 rfl rfl) ?_
  refine Eq.trans (jr_ic0 jF_309_9 (by decide +kernel)) ?_
  refine Eq.trans (jr_s (pc2 := 13) (lv2 := [(4, .int 41), (3, .int 0), (0, .long 0), (2, .int a2)]) (st2 := [.long 0]) jF_309_12 rfl rfl) ?_
  refine Eq.trans (jr_s (pc2 := 15) (lv2 := [(4, .int 41), (3, .int 0), (0, .long 0), (2, .int a2)]) (st2 := [.int 41, .long 0]) jF_309_13 rfl rfl) ?_
  refine Eq.trans (jr_s (pc2 := 16) (lv2 := [(4, .int 41), (3, .int 0), (0, .long 0), (2, .int a2)]) (st2 := [.long 0]) jF_309_15 rfl rfl) ?_
  refine Eq.trans (jr_s (pc2 := 17) (lv2 := [(4, .int 41), (3, .int 0), (0, .long 0), (2, .int a2)]) (st2 := [.long 1, .long 0]) jF_309_16 rfl rfl) ?_
  refine Eq.trans (jr_s (pc2 := 18) (lv2 := [(4, .int 41), (3, .int 0), (0, .long 0), (2, .int a2)]) (st2 := [.long 0]) jF_309_17 rfl rfl) ?_
  refine Eq.trans (jr_s (pc2 := 19) (lv2 := [(4, .int 41), (3, .int 0), (0, .long 0), (2, .int a2)]) (st2 := [.long 0, .long 0]) jF_309_18 rfl rfl) ?_
  refine Eq.trans (jr_s (pc2 := 20) (lv2 := [(4, .int 41), (3, .int 0), (0, .long 0), (2, .int a2)]) (st2 := [.int 0]) jF_309_19 rfl rfl) ?_
  refine Eq.trans (jr_if0 jF_309_20 (by decide +kernel)) ?_
  refine Eq.trans (jr_s (pc2 := 37) (lv2 := [(4, .int 41), (3, .int 0), (0, .long 0), (2, .int a2)]) (st2 := []) jF_309_23 rfl rfl) ?_
  refine Eq.trans (jr_s (pc2 := 40) (lv2 := [(4, .int 42), (3, .int 0), (0, .long 0), (2, .int a2)]) (st2 := []) jF_309_37 rfl rfl) ?_
  refine Eq.trans (jr_s (pc2 := 5) (lv2 := [(4, .int 42), (3, .int 0), (0, .long 0), (2, .int a2)]) (st2 := []) jF_309_40 rfl rfl) ?_
  refine Eq.trans (jr_s (pc2 := 7) (lv2 := [(4, .int 42), (3, .int 0), (0, .long 0), (2, .int a2)]) (st2 := [.int 42]) jF_309_5 rfl rfl) ?_
  refine Eq.trans (jr_s (pc2 := 9) (lv2 := [(4, .int 42), (3, .int 0), (0, .long 0), (2, .int a2)]) (st2 := [.int 64, .int 42]) jF_309_7 rfl rfl) ?_
  refine Eq.trans (jr_ic0 jF_309_9 (by decide +kernel)) ?_
  refine Eq.trans (jr_s (pc2 := 13) (lv2 := [(4, .int 42), (3, .int 0), (0, .long 0), (2, .int a2)]) (st2 := [.long 0]) jF_309_12 rfl rfl) ?_
  refine Eq.trans (jr_s (pc2 := 15) (lv2 := [(4, .int 42), (3, .int 0), (0, .long 0), (2, .int a2)]) (st2 := [.int 42, .long 0]) jF_309_13 rfl rfl) ?_
  refine Eq.trans (jr_s (pc2 := 16) (lv2 := [(4, .int 42), (3, .int 0), (0, .long 0), (2, .int a2)]) (st2 := [.long 0]) jF_309_15 rfl rfl) ?_
  refine Eq.trans (jr_s (pc2 := 17) (lv2 := [(4, .int 42), (3, .int 0), (0, .long 0), (2, .int a2)]) (st2 := [.long 1, .long 0]) jF_309_16 rfl rfl) ?_
  refine Eq.trans (jr_s (pc2 := 18) (lv2 := [(4, .int 42), (3, .int 0), (0, .long 0), (2, .int a2)]) (st2 := [.long 0]) jF_309_17 rfl rfl) ?_
  refine Eq.trans (jr_s (pc2 := 19) (lv2 := [(4, .int 42), (3, .int 0), (0, .long 0), (2, .int a2)]) (st2 := [.long 0, .long 0]) jF_309_18 rfl rfl) ?_
  refine Eq.trans (jr_s (pc2 := 20) (lv2 := [(4, .int 42), (3, .int 0), (0, .long 0), (2, .int a2)]) (st2 := [.int 0]) jF_309_19 rfl rfl) ?_
  refine Eq.trans (jr_if0 jF_309_20 (by decide +kernel)) ?_
  refine Eq.trans (jr_s (pc2 := 37) (lv2 := [(4, .int 42), (3, .int 0), (0, .long 0), (2, .int a2)]) (st2 := []) jF_309_23 rfl rfl) ?_
  refine Eq.trans (jr_s (pc2 := 40) (lv2 := [(4, .int 43), (3, .int 0), (0, .long 0), (2, .int a2)]) (st2 := []) jF_309_37 rfl rfl) ?_
  refine Eq.trans (jr_s (pc2 := 5) (lv2 := [(4, .int 43), (3, .int 0), (0, .long 0), (2, .int a2)]) (st2 := []) jF_309_40 rfl rfl) ?_
  refine Eq.trans (jr_s (pc2 := 7) (lv2 := [(4, .int 43), (3, .int 0), (0, .long 0), (2, .int a2)]) (st2 := [.int 43]) jF_309_5 rfl rfl) ?_
  refine Eq.trans (jr_s (pc2 := 9) (lv2 := [(4, .int 43), (3, .int 0), (0, .long 0), (2, .int a2)]) (st2 := [.int 64, .int 43]) jF_309_7 rfl rfl) ?_
  refine Eq.trans (jr_ic0 jF_309_9 (by decide +kernel)) ?_
  refine Eq.trans (jr_s (pc2 := 13) (lv2 := [(4, .int 43), (3, .int 0), (0, .long 0), (2, .int a2)]) (st2 := [.long 0]) jF_309_12 rfl rfl) ?_
  refine Eq.trans (jr_s (pc2 := 15) (lv2 := [(4, .int 43), (3, .int 0), (0, .long 0), (2, .int a2)]) (st2 := [.int 43, .long 0]) jF_309_13 rfl rfl) ?_
  refine Eq.trans (jr_s (pc2 := 16) (lv2 := [(4, .int 43), (3, .int 0), (0, .long 0), (2, .int a2)]) (st2 := [.long 0]) jF_309_15 rfl rfl) ?_
  refine Eq.trans (jr_s (pc2 := 17) (lv2 := [(4, .int 43), (3, .int 0), (0, .long 0), (2, .int a2)]) (st2 := [.long 1, .long 0]) jF_309_16 rfl rfl) ?_
  refine Eq.trans (jr_s (pc2 := 18) (lv2 := [(4, .int 43), (3, .int 0), (0, .long 0), (2, .int a2)]) (st2 := [.long 0]) jF_309_17 rfl rfl) ?_
  refine Eq.trans (jr_s (pc2 := 19) (lv2 := [(4, .int 43), (3, .int 0), (0, .long 0), (2, .int a2)]) (st2 := [.long 0, .long 0]) jF_309_18 rfl rfl) ?_
  refine Eq.trans (jr_s (pc2 := 20) (lv2 := [(4, .int 43), (3, .int 0), (0, .long 0), (2, .int a2)]) (st2 := [.int 0]) jF_309_19 rfl rfl) ?_
  refine Eq.trans (jr_if0 jF_309_20 (by decide +kernel)) ?_
  refine Eq.trans (jr_s (pc2 := 37) (lv2 := [(4, .int 43), (3, .int 0), (0, .long 0), (2, .int a2)]) (st2 := []) jF_309_23 rfl rfl) ?_
  refine Eq.trans (jr_s (pc2 := 40) (lv2 := [(4, .int 44), (3, .int 0), (0, .long 0), (2, .int a2)]) (st2 := []) jF_309_37 rfl rfl) ?_
  refine Eq.trans (jr_s (pc2 := 5) (lv2 := [(4, .int 44), (3, .int 0), (0, .long 0), (2, .int a2)]) (st2 := []) jF_309_40 rfl rfl) ?_
  refine Eq.trans (jr_s (pc2 := 7) (lv2 := [(4, .int 44), (3, .int 0), (0, .long 0), (2, .int a2)]) (st2 := [.int 44]) jF_309_5 rfl rfl) ?_
  refine Eq.trans (jr_s (pc2 := 9) (lv2 := [(4, .int 44), (3, .int 0), (0, .long 0), (2, .int a2)]) (st2 := [.int 64, .int 44]) jF_309_7 rfl rfl) ?_
  refine Eq.trans (jr_ic0 jF_309_9 (by decide +kernel)) ?_
  refine Eq.trans (jr_s (pc2 := 13) (lv2 := [(4, .int 44), (3, .int 0), (0, .long 0), (2, .int a2)]) (st2 := [.long 0]) jF_309_12 rfl rfl) ?_
  refine Eq.trans (jr_s (pc2 := 15) (lv2 := [(4, .int 44), (3, .int 0), (0, .long 0), (2, .int a2)]) (st2 := [.int 44, .long 0]) jF_309_13 rfl rfl) ?_
  refine Eq.trans (jr_s (pc2 := 16) (lv2 := [(4, .int 44), (3, .int 0), (0, .long 0), (2, .int a2)]) (st2 := [.long 0]) jF_309_15 rfl rfl) ?_
  refine Eq.trans (jr_s (pc2 := 17) (lv2 := [(4, .int 44), (3, .int 0), (0, .long 0), (2, .int a2)]) (st2 := [.long 1, .long 0]) jF_309_16 rfl rfl) ?_
  refine Eq.trans (jr_s (pc2 := 18) (lv2 := [(4, .int 44), (3, .int 0), (0, .long 0), (2, .int a2)]) (st2 := [.long 0]) jF_309_17 rfl rfl) ?_
  refine Eq.trans (jr_s (pc2 := 19) (lv2 := [(4, .int 44), (3, .int 0), (0, .long 0), (2, .int a2)]) (st2 := [.long 0, .long 0]) jF_309_18 rfl rfl) ?_
  refine Eq.trans (jr_s (pc2 := 20) (lv2 := [(4, .int 44), (3, .int 0), (0, .long 0), (2, .int a2)]) (st2 := [.int 0]) jF_309_19 rfl rfl) ?_
  refine Eq.trans (jr_if0 jF_309_20 (by decide +kernel)) ?_
  refine Eq.trans (jr_s (pc2 := 37) (lv2 := [(4, .int 44), (3, .int 0), (0, .long 0), (2, .int a2)]) (st2 := []) jF_309_23 rfl rfl) ?_
  refine Eq.trans (jr_s (pc2 := 40) (lv2 := [(4, .int 45), (3, .int 0), (0, .long 0), (2, .int a2)]) (st2 := []) jF_309_37 rfl rfl) ?_
  refine Eq.trans (jr_s (pc2 := 5) (lv2 := [(4, .int 45), (3, .int 0), (0, .long 0), (2, .int a2)]) (st2 := []) jF_309_40 rfl rfl) ?_
  refine Eq.trans (jr_s (pc2 := 7) (lv2 := [(4, .int 45), (3, .int 0), (0, .long 0), (2, .int a2)]) (st2 := [.int 45]) jF_309_5 rfl rfl) ?_
  refine Eq.trans (jr_s (pc2 := 9) (lv2 := [(4, .int 45), (3, .int 0), (0, .long 0), (2, .int a2)]) (st2 := [.int 64, .int 45]) jF_309_7 rfl rfl) ?_
  refine Eq.trans (jr_ic0 jF_309_9 (by decide +kernel)) ?_
  refine Eq.trans (jr_s (pc2 := 13) (lv2 := [(4, .int 45), (3, .int 0), (0, .long 0), (2, .int a2)]) (st2 := [.long 0]) jF_309_12 rfl rfl) ?_
  refine Eq.trans (jr_s (pc2 := 15) (lv2 := [(4, .int 45), (3, .int 0), (0, .long 0), (2, .int a2)]) (st2 := [.int 45, .long 0]) jF_309_13 rfl rfl) ?_
  refine Eq.trans (jr_s (pc2 := 16) (lv2 := [(4, .int 45), (3, .int 0), (0, .long 0), (2, .int a2)]) (st2 := [.long 0]) jF_309_15 rfl rfl) ?_
  refine Eq.trans (jr_s (pc2 := 17) (lv2 := [(4, .int 45), (3, .int 0), (0, .long 0), (2, .int a2)]) (st2 := [.long 1, .long 0]) jF_309_16 rfl rfl) ?_
  refine Eq.trans (jr_s (pc2 := 18) (lv2 := [(4, .int 45), (3, .int 0), (0, .long 0), (2, .int a2)]) (st2 := [.long 0]) jF_309_17 rfl rfl) ?_
  refine Eq.trans (jr_s (pc2 := 19) (lv2 := [(4, .int 45), (3, .int 0), (0, .long 0), (2, .int a2)]) (st2 := [.long 0, .long 0]) jF_309_18 rfl rfl) ?_
  refine Eq.trans (jr_s (pc2 := 20) (lv2 := [(4, .int 45), (3, .int 0), (0, .long 0), (2, .int a2)]) (st2 := [.int 0]) jF_309_19 rfl rfl) ?_
  refine Eq.trans (jr_if0 jF_309_20 (by decide +kernel)) ?_
  refine Eq.trans (jr_s (pc2 := 37) (lv2 := [(4, .int 45), (3, .int 0), (0, .long 0), (2, .int a2)]) (st2 := []) jF_309_23 rfl rfl) ?_
  refine Eq.trans (jr_s (pc2 := 40) (lv2 := [(4, .int 46), (3, .int 0), (0, .long 0), (2, .int a2)]) (st2 := []) jF_309_37 rfl rfl) ?_
  refine Eq.trans (jr_s (pc2 := 5) (lv2 := [(4, .int 46), (3, .int 0), (0, .long 0), (2, .int a2)]) (st2 := []) jF_309_40 rfl rfl) ?_
  refine Eq.trans (jr_s (pc2 := 7) (lv2 := [(4, .int 46), (3, .int 0), (0, .long 0), (2, .int a2)]) (st2 := [.int 46]) jF_309_5 rfl rfl) ?_
  refine Eq.trans (jr_s (pc2 := 9) (lv2 := [(4, .int 46), (3, .int 0), (0, .long 0), (2, .int a2)]) (st2 := [.int 64, .int 46]) jF_309_7 rfl rfl) ?_
  refine Eq.trans (jr_ic0 jF_309_9 (by decide +kernel)) ?_
  refine Eq.trans (jr_s (pc2 := 13) (lv2 := [(4, .int 46), (3, .int 0), (0, .long 0), (2, .int a2)]) (st2 := [.long 0]) jF_309_12 rfl rfl) ?_
  refine Eq.trans (jr_s (pc2 := 15) (lv2 := [(4, .int 46), (3, .int 0), (0, .long 0), (2, .int a2)]) (st2 := [.int 46, .long 0]) jF_309_13 rfl rfl) ?_
  refine Eq.trans (jr_s (pc2 := 16) (lv2 := [(4, .int 46), (3, .int 0), (0, .long 0), (2, .int a2)]) (st2 := [.long 0]) jF_309_15 rfl rfl) ?_
  refine Eq.trans (jr_s (pc2 := 17) (lv2 := [(4, .int 46), (3, .int 0), (0, .long 0), (2, .int a2)]) (st2 := [.long 1, .long 0]) jF_309_16 rfl rfl) ?_
  refine Eq.trans (jr_s (pc2 := 18) (lv2 := [(4, .int 46), (3, .int 0), (0, .long 0), (2, .int a2)]) (st2 := [.long 0]) jF_309_17 rfl rfl) ?_
  refine Eq.trans (jr_s (pc2 := 19) (lv2 := [(4, .int 46), (3, .int 0), (0, .long 0), (2, .int a2)]) (st2 := [.long 0, .long 0]) jF_309_18 rfl rfl) ?_
  refine Eq.trans (jr_s (pc2 := 20) (lv2 := [(4, .int 46), (3, .int 0), (0, .long 0), (2, .int a2)]) (st2 := [.int 0]) jF_309_19 rfl rfl) ?_
  refine Eq.trans (jr_if0 jF_309_20 (by decide +kernel)) ?_
  refine Eq.trans (jr_s (pc2 := 37) (lv2 := [(4, .int 46), (3, .int 0), (0, .long 0), (2, .int a2)]) (st2 := []) jF_309_23 rfl rfl) ?_
  refine Eq.trans (jr_s (pc2 := 40) (lv2 := [(4, .int 47), (3, .int 0), (0, .long 0), (2, .int a2)]) (st2 := []) jF_309_37 rfl rfl) ?_
  refine Eq.trans (jr_s (pc2 := 5) (lv2 := [(4, .int 47), (3, .int 0), (0, .long 0), (2, .int a2)]) (st2 := []) jF_309_40 rfl rfl) ?_
  refine Eq.trans (jr_s (pc2 := 7) (lv2 := [(4, .int 47), (3, .int 0), (0, .long 0), (2, .int a2)]) (st2 := [.int 47]) jF_309_5 rfl rfl) ?_
  refine Eq.trans (jr_s (pc2 := 9) (lv2 := [(4, .int 47), (3, .int 0), (0, .long 0), (2, .int a2)]) (st2 := [.int 64, .int 47]) jF_309_7 rfl rfl) ?_
  refine Eq.trans (jr_ic0 jF_309_9 (by decide +kernel)) ?_
  refine Eq.trans (jr_s (pc2 := 13) (lv2 := [(4, .int 47), (3, .int 0), (0, .long 0), (2, .int a2)]) (st2 := [.long 0]) jF_309_12 rfl rfl) ?_
  refine Eq.trans (jr_s (pc2 := 15) (lv2 := [(4, .int 47), (3, .int 0), (0, .long 0), (2, .int a2)]) (st2 := [.int 47, .long 0]) jF_309_13 rfl rfl) ?_
  refine Eq.trans (jr_s (pc2 := 16) (lv2 := [(4, .int 47), (3, .int 0), (0, .long 0), (2, .int a2)]) (st2 := [.long 0]) jF_309_15 rfl rfl) ?_
  refine Eq.trans (jr_s (pc2 := 17) (lv2 := [(4, .int 47), (3, .int 0), (0, .long 0), (2, .int a2)]) (st2 := [.long 1, .long 0]) jF_309_16 rfl rfl) ?_
  refine Eq.trans (jr_s (pc2 := 18) (lv2 := [(4, .int 47), (3, .int 0), (0, .long 0), (2, .int a2)]) (st2 := [.long 0]) jF_309_17 rfl rfl) ?_
  refine Eq.trans (jr_s (pc2 := 19) (lv2 := [(4, .int 47), (3, .int 0), (0, .long 0), (2, .int a2)]) (st2 := [.long 0, .long 0]) jF_309_18 rfl rfl) ?_
  refine Eq.trans (jr_s (pc2 := 20) (lv2 := [(4, .int 47), (3, .int 0), (0, .long 0), (2, .int a2)]) (st2 := [.int 0]) jF_309_19 rfl rfl) ?_
  refine Eq.trans (jr_if0 jF_309_20 (by decide +kernel)) ?_
  refine Eq.trans (jr_s (pc2 := 37) (lv2 := [(4, .int 47), (3, .int 0), (0, .long 0), (2, .int a2)]) (st2 := []) jF_309_23 rfl rfl) ?_
  refine Eq.trans (jr_s (pc2 := 40) (lv2 := [(4, .int 48), (3, .int 0), (0, .long 0), (2, .int a2)]) (st2 := []) jF_309_37 rfl rfl) ?_
  refine Eq.trans (jr_s (pc2 := 5) (lv2 := [(4, .int 48), (3, .int 0), (0, .long 0), (2, .int a2)]) (st2 := []) jF_309_40 rfl rfl) ?_
  refine Eq.trans (jr_s (pc2 := 7) (lv2 := [(4, .int 48), (3, .int 0), (0, .long 0), (2, .int a2)]) (st2 := [.int 48]) jF_309_5 rfl rfl) ?_
  refine Eq.trans (jr_s (pc2 := 9) (lv2 := [(4, .int 48), (3, .int 0), (0, .long 0), (2, .int a2)]) (st2 := [.int 64, .int 48]) jF_309_7 rfl rfl) ?_
  refine Eq.trans (jr_ic0 jF_309_9 (by decide +kernel)) ?_
  refine Eq.trans (jr_s (pc2 := 13) (lv2 := [(4, .int 48), (3, .int 0), (0, .long 0), (2, .int a2)]) (st2 := [.long 0]) jF_309_12 rfl rfl) ?_
  refine Eq.trans (jr_s (pc2 := 15) (lv2 := [(4, .int 48), (3, .int 0), (0, .long 0), (2, .int a2)]) (st2 := [.int 48, .long 0]) jF_309_13 rfl rfl) ?_
  refine Eq.trans (jr_s (pc2 := 16) (lv2 := [(4, .int 48), (3, .int 0), (0, .long 0), (2, .int a2)]) (st2 := [.long 0]) jF_309_15 rfl rfl) ?_
  refine Eq.trans (jr_s (pc2 := 17) (lv2 := [(4, .int 48), (3, .int 0), (0, .long 0), (2, .int a2)]) (st2 := [.long 1, .long 0]) jF_309_16 rfl rfl) ?_
  refine Eq.trans (jr_s (pc2 := 18) (lv2 := [(4, .int 48), (3, .int 0), (0, .long 0), (2, .int a2)]) (st2 := [.long 0]) jF_309_17 rfl rfl) ?_
  refine Eq.trans (jr_s (pc2 := 19) (lv2 := [(4, .int 48), (3, .int 0), (0, .long 0), (2, .int a2)]) (st2 := [.long 0, .long 0]) jF_309_18 rfl rfl) ?_
  refine Eq.trans (jr_s (pc2 := 20) (lv2 := [(4, .int 48), (3, .int 0), (0, .long 0), (2, .int a2)]) (st2 := [.int 0]) jF_309_19 rfl rfl) ?_
  refine Eq.trans (jr_if0 jF_309_20 (by decide +kernel)) ?_
  refine Eq.trans (jr_s (pc2 := 37) (lv2 := [(4, .int 48), (3, .int 0), (0, .long 0), (2, .int a2)]) (st2 := []) jF_309_23 rfl rfl) ?_
  refine Eq.trans (jr_s (pc2 := 40) (lv2 := [(4, .int 49), (3, .int 0), (0, .long 0), (2, .int a2)]) (st2 := []) jF_309_37 rfl rfl) ?_
  refine Eq.trans (jr_s (pc2 := 5) (lv2 := [(4, .int 49), (3, .int 0), (0, .long 0), (2, .int a2)]) (st2 := []) jF_309_40 rfl rfl) ?_
  refine Eq.trans (jr_s (pc2 := 7) (lv2 := [(4, .int 49), (3, .int 0), (0, .long 0), (2, .int a2)]) (st2 := [.int 49]) jF_309_5 rfl rfl) ?_
  refine Eq.trans (jr_s (pc2 := 9) (lv2 := [(4, .int 49), (3, .int 0), (0, .long 0), (2, .int a2)]) (st2 := [.int 64, .int 49]) jF_309_7 rfl rfl) ?_
  refine Eq.trans (jr_ic0 jF_309_9 (by decide +kernel)) ?_
  refine Eq.trans (jr_s (pc2 := 13) (lv2 := [(4, .int 49), (3, .int 0), (0, .long 0), (2, .int a2)]) (st2 := [.long 0]) jF_309_12 rfl rfl) ?_
  refine Eq.trans (jr_s (pc2 := 15) (lv2 := [(4, .int 49), (3, .int 0), (0, .long 0), (2, .int a2)]) (st2 := [.int 49, .long 0]) jF_309_13 rfl rfl) ?_
  refine Eq.trans (jr_s (pc2 := 16) (lv2 := [(4, .int 49), (3, .int 0), (0, .long 0), (2, .int a2)]) (st2 := [.long 0]) jF_309_15 rfl rfl) ?_
  refine Eq.trans (jr_s (pc2 := 17) (lv2 := [(4, .int 49), (3, .int 0), (0, .long 0), (2, .int a2)]) (st2 := [.long 1, .long 0]) jF_309_16 rfl rfl) ?_
  refine Eq.trans (jr_s (pc2 := 18) (lv2 := [(4, .int 49), (3, .int 0), (0, .long 0), (2, .int a2)]) (st2 := [.long 0]) jF_309_17 rfl rfl) ?_
  refine Eq.trans (jr_s (pc2 := 19) (lv2 := [(4, .int 49), (3, .int 0), (0, .long 0), (2, .int a2)]) (st2 := [.long 0, .long 0]) jF_309_18 rfl rfl) ?_
  refine Eq.trans (jr_s (pc2 := 20) (lv2 := [(4, .int 49), (3, .int 0), (0, .long 0), (2, .int a2)]) (st2 := [.int 0]) jF_309_19 rfl rfl) ?_
  refine Eq.trans (jr_if0 jF_309_20 (by decide +kernel)) ?_
  refine Eq.trans (jr_s (pc2 := 37) (lv2 := [(4, .int 49), (3, .int 0), (0, .long 0), (2, .int a2)]) (st2 := []) jF_309_23 rfl rfl) ?_
  refine Eq.trans (jr_s (pc2 := 40) (lv2 := [(4, .int 50), (3, .int 0), (0, .long 0), (2, .int a2)]) (st2 := []) jF_309_37 rfl rfl) ?_
  refine Eq.trans (jr_s (pc2 := 5) (lv2 := [(4, .int 50), (3, .int 0), (0, .long 0), (2, .int a2)]) (st2 := []) jF_309_40 rfl rfl) ?_
  refine Eq.trans (jr_s (pc2 := 7) (lv2 := [(4, .int 50), (3, .int 0), (0, .long 0), (2, .int a2)]) (st2 := [.int 50]) jF_309_5 rfl rfl) ?_
  refine Eq.trans (jr_s (pc2 := 9) (lv2 := [(4, .int 50), (3, .int 0), (0, .long 0), (2, .int a2)]) (st2 := [.int 64, .int 50]) jF_309_7 rfl rfl) ?_
  refine Eq.trans (jr_ic0 jF_309_9 (by decide +kernel)) ?_
  refine Eq.trans (jr_s (pc2 := 13) (lv2 := [(4, .int 50), (3, .int 0), (0, .long 0), (2, .int a2)]) (st2 := [.long 0]) jF_309_12 rfl rfl) ?_
  refine Eq.trans (jr_s (pc2 := 15) (lv2 := [(4, .int 50), (3, .int 0), (0, .long 0), (2, .int a2)]) (st2 := [.int 50, .long 0]) jF_309_13 rfl rfl) ?_
  refine Eq.trans (jr_s (pc2 := 16) (lv2 := [(4, .int 50), (3, .int 0), (0, .long 0), (2, .int a2)]) (st2 := [.long 0]) jF_309_15 rfl rfl) ?_
  refine Eq.trans (jr_s (pc2 := 17) (lv2 := [(4, .int 50), (3, .int 0), (0, .long 0), (2, .int a2)]) (st2 := [.long 1, .long 0]) jF_309_16 rfl rfl) ?_
  refine Eq.trans (jr_s (pc2 := 18) (lv2 := [(4, .int 50), (3, .int 0), (0, .long 0), (2, .int a2)]) (st2 := [.long 0]) jF_309_17 rfl rfl) ?_
  refine Eq.trans (jr_s (pc2 := 19) (lv2 := [(4, .int 50), (3, .int 0), (0, .long 0), (2, .int a2)]) (st2 := [.long 0, .long 0]) jF_309_18 rfl rfl) ?_
  refine Eq.trans (jr_s (pc2 := 20) (lv2 := [(4, .int 50), (3, .int 0), (0, .long 0), (2, .int a2)]) (st2 := [.int 0]) jF_309_19 rfl rfl) ?_
  refine Eq.trans (jr_if0 jF_309_20 (by decide +kernel)) ?_
  refine Eq.trans (jr_s (pc2 := 37) (lv2 := [(4, .int 50), (3, .int 0), (0, .long 0), (2, .int a2)]) (st2 := []) jF_309_23 rfl rfl) ?_
  refine Eq.trans (jr_s (pc2 := 40) (lv2 := [(4, .int 51), (3, .int 0), (0, .long 0), (2, .int a2)]) (st2 := []) jF_309_37 rfl rfl) ?_
  refine Eq.trans (jr_s (pc2 := 5) (lv2 := [(4, .int 51), (3, .int 0), (0, .long 0), (2, .int a2)]) (st2 := []) jF_309_40 rfl rfl) ?_
  refine Eq.trans (jr_s (pc2 := 7) (lv2 := [(4, .int 51), (3, .int 0), (0, .long 0), (2, .int a2)]) (st2 := [.int 51]) jF_309_5 rfl rfl) ?_
  refine Eq.trans (jr_s (pc2 := 9) (lv2 := [(4, .int 51), (3, .int 0), (0, .long 0), (2, .int a2)]) (st2 := [.int 64, .int 51]) jF_309_7 rfl rfl) ?_
  refine Eq.trans (jr_ic0 jF_309_9 (by decide +kernel)) ?_
  refine Eq.trans (jr_s (pc2 := 13) (lv2 := [(4, .int 51), (3, .int 0), (0, .long 0), (2, .int a2)]) (st2 := [.long 0]) jF_309_12 rfl rfl) ?_
  refine Eq.trans (jr_s (pc2 := 15) (lv2 := [(4, .int 51), (3, .int 0), (0, .long 0), (2, .int a2)]) (st2 := [.int 51, .long 0]) jF_309_13 rfl rfl) ?_
  refine Eq.trans (jr_s (pc2 := 16) (lv2 := [(4, .int 51), (3, .int 0), (0, .long 0), (2, .int a2)]) (st2 := [.long 0]) jF_309_15 rfl rfl) ?_
  refine Eq.trans (jr_s (pc2 := 17) (lv2 := [(4, .int 51), (3, .int 0), (0, .long 0), (2, .int a2)]) (st2 := [.long 1, .long 0]) jF_309_16 rfl rfl) ?_
  refine Eq.trans (jr_s (pc2 := 18) (lv2 := [(4, .int 51), (3, .int 0), (0, .long 0), (2, .int a2)]) (st2 := [.long 0]) jF_309_17 rfl rfl) ?_
  refine Eq.trans (jr_s (pc2 := 19) (lv2 := [(4, .int 51), (3, .int 0), (0, .long 0), (2, .int a2)]) (st2 := [.long 0, .long 0]) jF_309_18 rfl rfl) ?_
  refine Eq.trans (jr_s (pc2 := 20) (lv2 := [(4, .int 51), (3, .int 0), (0, .long 0), (2, .int a2)]) (st2 := [.int 0]) jF_309_19 rfl rfl) ?_
  refine Eq.trans (jr_if0 jF_309_20 (by decide +kernel)) ?_
  refine Eq.trans (jr_s (pc2 := 37) (lv2 := [(4, .int 51), (3, .int 0), (0, .long 0), (2, .int a2)]) (st2 := []) jF_309_23 rfl rfl) ?_
  refine Eq.trans (jr_s (pc2 := 40) (lv2 := [(4, .int 52), (3, .int 0), (0, .long 0), (2, .int a2)]) (st2 := []) jF_309_37 rfl rfl) ?_
  refine Eq.trans (jr_s (pc2 := 5) (lv2 := [(4, .int 52), (3, .int 0), (0, .long 0), (2, .int a2)]) (st2 := []) jF_309_40 rfl rfl) ?_
  refine Eq.trans (jr_s (pc2 := 7) (lv2 := [(4, .int 52), (3, .int 0), (0, .long 0), (2, .int a2)]) (st2 := [.int 52]) jF_309_5 rfl rfl) ?_
  refine Eq.trans (jr_s (pc2 := 9) (lv2 := [(4, .int 52), (3, .int 0), (0, .long 0), (2, .int a2)]) (st2 := [.int 64, .int 52]) jF_309_7 rfl rfl) ?_
  refine Eq.trans (jr_ic0 jF_309_9 (by decide +kernel)) ?_
  refine Eq.trans (jr_s (pc2 := 13) (lv2 := [(4, .int 52), (3, .int 0), (0, .long 0), (2, .int a2)]) (st2 := [.long 0]) jF_309_12 rfl rfl) ?_
  refine Eq.trans (jr_s (pc2 := 15) (lv2 := [(4, .int 52), (3, .int 0), (0, .long 0), (2, .int a2)]) (st2 := [.int 52, .long 0]) jF_309_13 rfl rfl) ?_
  refine Eq.trans (jr_s (pc2 := 16) (lv2 := [(4, .int 52), (3, .int 0), (0, .long 0), (2, .int a2)]) (st2 := [.long 0]) jF_309_15 rfl rfl) ?_
  refine Eq.trans (jr_s (pc2 := 17) (lv2 := [(4, .int 52), (3, .int 0), (0, .long 0), (2, .int a2)]) (st2 := [.long 1, .long 0]) jF_309_16 rfl rfl) ?_
  refine Eq.trans (jr_s (pc2 := 18) (lv2 := [(4, .int 52), (3, .int 0), (0, .long 0), (2, .int a2)]) (st2 := [.long 0]) jF_309_17 rfl rfl) ?_
  refine Eq.trans (jr_s (pc2 := 19) (lv2 := [(4, .int 52), (3, .int 0), (0, .long 0), (2, .int a2)]) (st2 := [.long 0, .long 0]) jF_309_18 rfl rfl) ?_
  refine Eq.trans (jr_s (pc2 := 20) (lv2 := [(4, .int 52), (3, .int 0), (0, .long 0), (2, .int a2)]) (st2 := [.int 0]) jF_309_19 rfl rfl) ?_
  refine Eq.trans (jr_if0 jF_309_20 (by decide +kernel)) ?_
  refine Eq.trans (jr_s (pc2 := 37) (lv2 := [(4, .int 52), (3, .int 0), (0, .long 0), (2, .int a2)]) (st2 := []) jF_309_23 rfl rfl) ?_
  refine Eq.trans (jr_s (pc2 := 40) (lv2 := [(4, .int 53), (3, .int 0), (0, .long 0), (2, .int a2)]) (st2 := []) jF_309_37 rfl rfl) ?_
  refine Eq.trans (jr_s (pc2 := 5) (lv2 := [(4, .int 53), (3, .int 0), (0, .long 0), (2, .int a2)]) (st2 := []) jF_309_40 rfl rfl) ?_
  refine Eq.trans (jr_s (pc2 := 7) (lv2 := [(4, .int 53), (3, .int 0), (0, .long 0), (2, .int a2)]) (st2 := [.int 53]) jF_309_5 rfl rfl) ?_
  refine Eq.trans (jr_s (pc2 := 9) (lv2 := [(4, .int 53), (3, .int 0), (0, .long 0), (2, .int a2)]) (st2 := [.int 64, .int 53]) jF_309_7 rfl rfl) ?_
  refine Eq.trans (jr_ic0 jF_309_9 (by decide +kernel)) ?_
  refine Eq.trans (jr_s (pc2 := 13) (lv2 := [(4, .int 53), (3, .int 0), (0, .long 0), (2, .int a2)]) (st2 := [.long 0]) jF_309_12 rfl rfl) ?_
  refine Eq.trans (jr_s (pc2 := 15) (lv2 := [(4, .int 53), (3, .int 0), (0, .long 0), (2, .int a2)]) (st2 := [.int 53, .long 0]) jF_309_13 rfl rfl) ?_
  refine Eq.trans (jr_s (pc2 := 16) (lv2 := [(4, .int 53), (3, .int 0), (0, .long 0), (2, .int a2)]) (st2 := [.long 0]) jF_309_15 rfl rfl) ?_
  refine Eq.trans (jr_s (pc2 := 17) (lv2 := [(4, .int 53), (3, .int 0), (0, .long 0), (2, .int a2)]) (st2 := [.long 1, .long 0]) jF_309_16 rfl rfl) ?_
  refine Eq.trans (jr_s (pc2 := 18) (lv2 := [(4, .int 53), (3, .int 0), (0, .long 0), (2, .int a2)]) (st2 := [.long 0]) jF_309_17 rfl rfl) ?_
  refine Eq.trans (jr_s (pc2 := 19) (lv2 := [(4, .int 53), (3, .int 0), (0, .long 0), (2, .int a2)]) (st2 := [.long 0, .long 0]) jF_309_18 rfl rfl) ?_
  refine Eq.trans (jr_s (pc2 := 20) (lv2 := [(4, .int 53), (3, .int 0), (0, .long 0), (2, .int a2)]) (st2 := [.int 0]) jF_309_19 rfl rfl) ?_
  refine Eq.trans (jr_if0 jF_309_20 (by decide +kernel)) ?_
  refine Eq.trans (jr_s (pc2 := 37) (lv2 := [(4, .int 53), (3, .int 0), (0, .long 0), (2, .int a2)]) (st2 := []) jF_309_23 rfl rfl) ?_
  refine Eq.trans (jr_s (pc2 := 40) (lv2 := [(4, .int 54), (3, .int 0), (0, .long 0), (2, .int a2)]) (st2 := []) jF_309_37 rfl rfl) ?_
  refine Eq.trans (jr_s (pc2 := 5) (lv2 := [(4, .int 54), (3, .int 0), (0, .long 0), (2, .int a2)]) (st2 := []) jF_309_40 rfl rfl) ?_
  refine Eq.trans (jr_s (pc2 := 7) (lv2 := [(4, .int 54), (3, .int 0), (0, .long 0), (2, .int a2)]) (st2 := [.int 54]) jF_309_5 rfl rfl) ?_
  refine Eq.trans (jr_s (pc2 := 9) (lv2 := [(4, .int 54), (3, .int 0), (0, .long 0), (2, .int a2)]) (st2 := [.int 64, .int 54]) jF_309_7 rfl rfl) ?_
  refine Eq.trans (jr_ic0 jF_309_9 (by decide +kernel)) ?_
  refine Eq.trans (jr_s (pc2 := 13) (lv2 := [(4, .int 54), (3, .int 0), (0, .long 0), (2, .int a2)]) (st2 := [.long 0]) jF_309_12 rfl rfl) ?_
  refine Eq.trans (jr_s (pc2 := 15) (lv2 := [(4, .int 54), (3, .int 0), (0, .long 0), (2, .int a2)]) (st2 := [.int 54, .long 0]) jF_309_13 rfl rfl) ?_
  refine Eq.trans (jr_s (pc2 := 16) (lv2 := [(4, .int 54), (3, .int 0), (0, .long 0), (2, .int a2)]) (st2 := [.long 0]) jF_309_15 rfl rfl) ?_
  refine Eq.trans (jr_s (pc2 := 17) (lv2 := [(4, .int 54), (3, .int 0), (0, .long 0), (2, .int a2)]) (st2 := [.long 1, .long 0]) jF_309_16 rfl rfl) ?_
  refine Eq.trans (jr_s (pc2 := 18) (lv2 := [(4, .int 54), (3, .int 0), (0, .long 0), (2, .int a2)]) (st2 := [.long 0]) jF_309_17 rfl rfl) ?_
  refine Eq.trans (jr_s (pc2 := 19) (lv2 := [(4, .int 54), (3, .int 0), (0, .long 0), (2, .int a2)]) (st2 := [.long 0, .long 0]) jF_309_18 rfl rfl) ?_
  refine Eq.trans (jr_s (pc2 := 20) (lv2 := [(4, .int 54), (3, .int 0), (0, .long 0), (2, .int a2)]) (st2 := [.int 0]) jF_309_19 rfl rfl) ?_
  refine Eq.trans (jr_if0 jF_309_20 (by decide +kernel)) ?_
  refine Eq.trans (jr_s (pc2 := 37) (lv2 := [(4, .int 54), (3, .int 0), (0, .long 0), (2, .int a2)]) (st2 := []) jF_309_23 rfl rfl) ?_
  refine Eq.trans (jr_s (pc2 := 40) (lv2 := [(4, .int 55), (3, .int 0), (0, .long 0), (2, .int a2)]) (st2 := []) jF_309_37 rfl rfl) ?_
  refine Eq.trans (jr_s (pc2 := 5) (lv2 := [(4, .int 55), (3, .int 0), (0, .long 0), (2, .int a2)]) (st2 := []) jF_309_40 rfl rfl) ?_
  refine Eq.trans (jr_s (pc2 := 7) (lv2 := [(4, .int 55), (3, .int 0), (0, .long 0), (2, .int a2)]) (st2 := [.int 55]) jF_309_5 rfl rfl) ?_
  refine Eq.trans (jr_s (pc2 := 9) (lv2 := [(4, .int 55), (3, .int 0), (0, .long 0), (2, .int a2)]) (st2 := [.int 64, .int 55]) jF_309_7 rfl rfl) ?_
  refine Eq.trans (jr_ic0 jF_309_9 (by decide +kernel)) ?_
  refine Eq.trans (jr_s (pc2 := 13) (lv2 := [(4, .int 55), (3, .int 0), (0, .long 0), (2, .int a2)]) (st2 := [.long 0]) jF_309_12 rfl rfl) ?_
  refine Eq.trans (jr_s (pc2 := 15) (lv2 := [(4, .int 55), (3, .int 0), (0, .long 0), (2, .int a2)]) (st2 := [.int 55, .long 0]) jF_309_13 rfl rfl) ?_
  refine Eq.trans (jr_s (pc2 := 16) (lv2 := [(4, .int 55), (3, .int 0), (0, .long 0), (2, .int a2)]) (st2 := [.long 0]) jF_309_15 rfl rfl) ?_
  refine Eq.trans (jr_s (pc2 := 17) (lv2 := [(4, .int 55), (3, .int 0), (0, .long 0), (2, .int a2)]) (st2 := [.long 1, .long 0]) jF_309_16 rfl rfl) ?_
  refine Eq.trans (jr_s (pc2 := 18) (lv2 := [(4, .int 55), (3, .int 0), (0, .long 0), (2, .int a2)]) (st2 := [.long 0]) jF_309_17 rfl rfl) ?_
  refine Eq.trans (jr_s (pc2 := 19) (lv2 := [(4, .int 55), (3, .int 0), (0, .long 0), (2, .int a2)]) (st2 := [.long 0, .long 0]) jF_309_18 rfl rfl) ?_
  refine Eq.trans (jr_s (pc2 := 20) (lv2 := [(4, .int 55), (3, .int 0), (0, .long 0), (2, .int a2)]) (st2 := [.int 0]) jF_309_19 rfl rfl) ?_
  refine Eq.trans (jr_if0 jF_309_20 (by decide +kernel)) ?_
  refine Eq.trans (jr_s (pc2 := 37) (lv2 := [(4, .int 55), (3, .int 0), (0, .long 0), (2, .int a2)]) (st2 := []) jF_309_23 rfl rfl) ?_
  refine Eq.trans (jr_s (pc2 := 40) (lv2 := [(4, .int 56), (3, .int 0), (0, .long 0), (2, .int a2)]) (st2 := []) jF_309_37 rfl rfl) ?_
  refine Eq.trans (jr_s (pc2 := 5) (lv2 := [(4, .int 56), (3, .int 0), (0, .long 0), (2, .int a2)]) (st2 := []) jF_309_40 rfl rfl) ?_
  refine Eq.trans (jr_s (pc2 := 7) (lv2 := [(4, .int 56), (3, .int 0), (0, .long 0), (2, .int a2)]) (st2 := [.int 56]) jF_309_5 rfl rfl) ?_
  refine Eq.trans (jr_s (pc2 := 9) (lv2 := [(4, .int 56), (3, .int 0), (0, .long 0), (2, .int a2)]) (st2 := [.int 64, .int 56]) jF_309_7 rfl rfl) ?_
  refine Eq.trans (jr_ic0 jF_309_9 (by decide +kernel)) ?_
  refine Eq.trans (jr_s (pc2 := 13) (lv2 := [(4, .int 56), (3, .int 0), (0, .long 0), (2, .int a2)]) (st2 := [.long 0]) jF_309_12 rfl rfl) ?_
  refine Eq.trans (jr_s (pc2 := 15) (lv2 := [(4, .int 56), (3, .int 0), (0, .long 0), (2, .int a2)]) (st2 := [.int 56, .long 0]) jF_309_13 rfl rfl) ?_
  refine Eq.trans (jr_s (pc2 := 16) (lv2 := [(4, .int 56), (3, .int 0), (0, .long 0), (2, .int a2)]) (st2 := [.long 0]) jF_309_15 rfl rfl) ?_
  refine Eq.trans (jr_s (pc2 := 17) (lv2 := [(4, .int 56), (3, .int 0), (0, .long 0), (2, .int a2)]) (st2 := [.long 1, .long 0]) jF_309_16 rfl rfl) ?_
  refine Eq.trans (jr_s (pc2 := 18) (lv2 := [(4, .int 56), (3, .int 0), (0, .long 0), (2, .int a2)]) (st2 := [.long 0]) jF_309_17 rfl rfl) ?_
  refine Eq.trans (jr_s (pc2 := 19) (lv2 := [(4, .int 56), (3, .int 0), (0, .long 0), (2, .int a2)]) (st2 := [.long 0, .long 0]) jF_309_18 rfl rfl) ?_
  refine Eq.trans (jr_s (pc2 := 20) (lv2 := [(4, .int 56), (3, .int 0), (0, .long 0), (2, .int a2)]) (st2 := [.int 0]) jF_309_19 rfl rfl) ?_
  refine Eq.trans (jr_if0 jF_309_20 (by decide +kernel)) ?_
  refine Eq.trans (jr_s (pc2 := 37) (lv2 := [(4, .int 56), (3, .int 0), (0, .long 0), (2, .int a2)]) (st2 := []) jF_309_23 rfl rfl) ?_
  refine Eq.trans (jr_s (pc2 := 40) (lv2 := [(4, .int 57), (3, .int 0), (0, .long 0), (2, .int a2)]) (st2 := []) jF_309_37 rfl rfl) ?_
  refine Eq.trans (jr_s (pc2 := 5) (lv2 := [(4, .int 57), (3, .int 0), (0, .long 0), (2, .int a2)]) (st2 := []) jF_309_40 rfl rfl) ?_
  refine Eq.trans (jr_s (pc2 := 7) (lv2 := [(4, .int 57), (3, .int 0), (0, .long 0), (2, .int a2)]) (st2 := [.int 57]) jF_309_5 rfl rfl) ?_
  refine Eq.trans (jr_s (pc2 := 9) (lv2 := [(4, .int 57), (3, .int 0), (0, .long 0), (2, .int a2)]) (st2 := [.int 64, .int 57]) jF_309_7 rfl rfl) ?_
  refine Eq.trans (jr_ic0 jF_309_9 (by decide +kernel)) ?_
  refine Eq.trans (jr_s (pc2 := 13) (lv2 := [(4, .int 57), (3, .int 0), (0, .long 0), (2, .int a2)]) (st2 := [.long 0]) jF_309_12 rfl rfl) ?_
  refine Eq.trans (jr_s (pc2 := 15) (lv2 := [(4, .int 57), (3, .int 0), (0, .long 0), (2, .int a2)]) (st2 := [.int 57, .long 0]) jF_309_13 rfl rfl) ?_
  refine Eq.trans (jr_s (pc2 := 16) (lv2 := [(4, .int 57), (3, .int 0), (0, .long 0), (2, .int a2)]) (st2 := [.long 0]) jF_309_15 rfl rfl) ?_
  refine Eq.trans (jr_s (pc2 := 17) (lv2 := [(4, .int 57), (3, .int 0), (0, .long 0), (2, .int a2)]) (st2 := [.long 1, .long 0]) jF_309_16 rfl rfl) ?_
  refine Eq.trans (jr_s (pc2 := 18) (lv2 := [(4, .int 57), (3, .int 0), (0, .long 0), (2, .int a2)]) (st2 := [.long 0]) jF_309_17 rfl rfl) ?_
  refine Eq.trans (jr_s (pc2 := 19) (lv2 := [(4, .int 57), (3, .int 0), (0, .long 0), (2, .int a2)]) (st2 := [.long 0, .long 0]) jF_309_18 rfl rfl) ?_
  refine Eq.trans (jr_s (pc2 := 20) (lv2 := [(4, .int 57), (3, .int 0), (0, .long 0), (2, .int a2)]) (st2 := [.int 0]) jF_309_19 rfl rfl) ?_
  refine Eq.trans (jr_if0 jF_309_20 (by decide +kernel)) ?_
  refine Eq.trans (jr_s (pc2 := 37) (lv2 := [(4, .int 57), (3, .int 0), (0, .long 0), (2, .int a2)]) (st2 := []) jF_309_23 rfl rfl) ?_
  refine Eq.trans (jr_s (pc2 := 40) (lv2 := [(4, .int 58), (3, .int 0), (0, .long 0), (2, .int a2)]) (st2 := []) jF_309_37 rfl rfl) ?_
  refine Eq.trans (jr_s (pc2 := 5) (lv2 := [(4, .int 58), (3, .int 0), (0, .long 0), (2, .int a2)]) (st2 := []) jF_309_40 rfl rfl) ?_
  refine Eq.trans (jr_s (pc2 := 7) (lv2 := [(4, .int 58), (3, .int 0), (0, .long 0), (2, .int a2)]) (st2 := [.int 58]) jF_309_5 rfl rfl) ?_
  refine Eq.trans (jr_s (pc2 := 9) (lv2 := [(4, .int 58), (3, .int 0), (0, .long 0), (2, .int a2)]) (st2 := [.int 64, .int 58]) jF_309_7 rfl rfl) ?_
  refine Eq.trans (jr_ic0 jF_309_9 (by decide +kernel)) ?_
  refine Eq.trans (jr_s (pc2 := 13) (lv2 := [(4, .int 58), (3, .int 0), (0, .long 0), (2, .int a2)]) (st2 := [.long 0]) jF_309_12 rfl rfl) ?_
  refine Eq.trans (jr_s (pc2 := 15) (lv2 := [(4, .int 58), (3, .int 0), (0, .long 0), (2, .int a2)]) (st2 := [.int 58, .long 0]) jF_309_13 rfl rfl) ?_
  refine Eq.trans (jr_s (pc2 := 16) (lv2 := [(4, .int 58), (3, .int 0), (0, .long 0), (2, .int a2)]) (st2 := [.long 0]) jF_309_15 rfl rfl) ?_
  refine Eq.trans (jr_s (pc2 := 17) (lv2 := [(4, .int 58), (3, .int 0), (0, .long 0), (2, .int a2)]) (st2 := [.long 1, .long 0]) jF_309_16 rfl rfl) ?_
  refine Eq.trans (jr_s (pc2 := 18) (lv2 := [(4, .int 58), (3, .int 0), (0, .long 0), (2, .int a2)]) (st2 := [.long 0]) jF_309_17 rfl rfl) ?_
  refine Eq.trans (jr_s (pc2 := 19) (lv2 := [(4, .int 58), (3, .int 0), (0, .long 0), (2, .int a2)]) (st2 := [.long 0, .long 0]) jF_309_18 rfl rfl) ?_
  refine Eq.trans (jr_s (pc2 := 20) (lv2 := [(4, .int 58), (3, .int 0), (0, .long 0), (2, .int a2)]) (st2 := [.int 0]) jF_309_19 rfl rfl) ?_
  refine Eq.trans (jr_if0 jF_309_20 (by decide +kernel)) ?_
  refine Eq.trans (jr_s (pc2 := 37) (lv2 := [(4, .int 58), (3, .int 0), (0, .long 0), (2, .int a2)]) (st2 := []) jF_309_23 rfl rfl) ?_
  refine Eq.trans (jr_s (pc2 := 40) (lv2 := [(4, .int 59), (3, .int 0), (0, .long 0), (2, .int a2)]) (st2 := []) jF_309_37 rfl rfl) ?_
  refine Eq.trans (jr_s (pc2 := 5) (lv2 := [(4, .int 59), (3, .int 0), (0, .long 0), (2, .int a2)]) (st2 := []) jF_309_40 rfl rfl) ?_
  refine Eq.trans (jr_s (pc2 := 7) (lv2 := [(4, .int 59), (3, .int 0), (0, .long 0), (2, .int a2)]) (st2 := [.int 59]) jF_309_5 rfl rfl) ?_
  refine Eq.trans (jr_s (pc2 := 9) (lv2 := [(4, .int 59), (3, .int 0), (0, .long 0), (2, .int a2)]) (st2 := [.int 64, .int 59]) jF_309_7 rfl rfl) ?_
  refine Eq.trans (jr_ic0 jF_309_9 (by decide +kernel)) ?_
  refine Eq.trans (jr_s (pc2 := 13) (lv2 := [(4, .int 59), (3, .int 0), (0, .long 0), (2, .int a2)]) (st2 := [.long 0]) jF_309_12 rfl rfl) ?_
  refine Eq.trans (jr_s (pc2 := 15) (lv2 := [(4, .int 59), (3, .int 0), (0, .long 0), (2, .int a2)]) (st2 := [.int 59, .long 0]) jF_309_13 rfl rfl) ?_
  refine Eq.trans (jr_s (pc2 := 16) (lv2 := [(4, .int 59), (3, .int 0), (0, .long 0), (2, .int a2)]) (st2 := [.long 0]) jF_309_15 rfl rfl) ?_
  refine Eq.trans (jr_s (pc2 := 17) (lv2 := [(4, .int 59), (3, .int 0), (0, .long 0), (2, .int a2)]) (st2 := [.long 1, .long 0]) jF_309_16 rfl rfl) ?_
  refine Eq.trans (jr_s (pc2 := 18) (lv2 := [(4, .int 59), (3, .int 0), (0, .long 0), (2, .int a2)]) (st2 := [.long 0]) jF_309_17 rfl rfl) ?_
  refine Eq.trans (jr_s (pc2 := 19) (lv2 := [(4, .int 59), (3, .int 0), (0, .long 0), (2, .int a2)]) (st2 := [.long 0, .long 0]) jF_309_18 rfl rfl) ?_
  refine Eq.trans (jr_s (pc2 := 20) (lv2 := [(4, .int 59), (3, .int 0), (0, .long 0), (2, .int a2)]) (st2 := [.int 0]) jF_309_19 rfl rfl) ?_
  refine Eq.trans (jr_if0 jF_309_20 (by decide +kernel)) ?_
  refine Eq.trans (jr_s (pc2 := 37) (lv2 := [(4, .int 59), (3, .int 0), (0, .long 0), (2, .int a2)]) (st2 := []) jF_309_23 rfl rfl) ?_
  refine Eq.trans (jr_s (pc2 := 40) (lv2 := [(4, .int 60), (3, .int 0), (0, .long 0), (2, .int a2)]) (st2 := []) jF_309_37 rfl rfl) ?_
  refine Eq.trans (jr_s (pc2 := 5) (lv2 := [(4, .int 60), (3, .int 0), (0, .long 0), (2, .int a2)]) (st2 := []) jF_309_40 rfl rfl) ?_
  refine Eq.trans (jr_s (pc2 := 7) (lv2 := [(4, .int 60), (3, .int 0), (0, .long 0), (2, .int a2)]) (st2 := [.int 60]) jF_309_5 rfl rfl) ?_
  refine Eq.trans (jr_s (pc2 := 9) (lv2 := [(4, .int 60), (3, .int 0), (0, .long 0), (2, .int a2)]) (st2 := [.int 64, .int 60]) jF_309_7 rfl rfl) ?_
  refine Eq.trans (jr_ic0 jF_309_9 (by decide +kernel)) ?_
  refine Eq.trans (jr_s (pc2 := 13) (lv2 := [(4, .int 60), (3, .int 0), (0, .long 0), (2, .int a2)]) (st2 := [.long 0]) jF_309_12 rfl rfl) ?_
  refine Eq.trans (jr_s (pc2 := 15) (lv2 := [(4, .int 60), (3, .int 0), (0, .long 0), (2, .int a2)]) (st2 := [.int 60, .long 0]) jF_309_13 rfl rfl) ?_
  refine Eq.trans (jr_s (pc2 := 16) (lv2 := [(4, .int 60), (3, .int 0), (0, .long 0), (2, .int a2)]) (st2 := [.long 0]) jF_309_15 rfl rfl) ?_
  refine Eq.trans (jr_s (pc2 := 17) (lv2 := [(4, .int 60), (3, .int 0), (0, .long 0), (2, .int a2)]) (st2 := [.long 1, .long 0]) jF_309_16 rfl rfl) ?_
  refine Eq.trans (jr_s (pc2 := 18) (lv2 := [(4, .int 60), (3, .int 0), (0, .long 0), (2, .int a2)]) (st2 := [.long 0]) jF_309_17 rfl rfl) ?_
  refine Eq.trans (jr_s (pc2 := 19) (lv2 := [(4, .int 60), (3, .int 0), (0, .long 0), (2, .int a2)]) (st2 := [.long 0, .long 0]) jF_309_18 rfl rfl) ?_
  refine Eq.trans (jr_s (pc2 := 20) (lv2 := [(4, .int 60), (3, .int 0), (0, .long 0), (2, .int a2)]) (st2 := [.int 0]) jF_309_19 rfl rfl) ?_
  refine Eq.trans (jr_if0 jF_309_20 (by decide +kernel)) ?_
  refine Eq.trans (jr_s (pc2 := 37) (lv2 := [(4, .int 60), (3, .int 0), (0, .long 0), (2, .int a2)]) (st2 := []) jF_309_23 rfl rfl) ?_
  refine Eq.trans (jr_s (pc2 := 40) (lv2 := [(4, .int 61), (3, .int 0), (0, .long 0), (2, .int a2)]) (st2 := []) jF_309_37 rfl rfl) ?_
  refine Eq.trans (jr_s (pc2 := 5) (lv2 := [(4, .int 61), (3, .int 0), (0, .long 0), (2, .int a2)]) (st2 := []) jF_309_40 rfl rfl) ?_
  refine Eq.trans (jr_s (pc2 := 7) (lv2 := [(4, .int 61), (3, .int 0), (0, .long 0), (2, .int a2)]) (st2 := [.int 61]) jF_309_5 rfl rfl) ?_
  refine Eq.trans (jr_s (pc2 := 9) (lv2 := [(4, .int 61), (3, .int 0), (0, .long 0), (2, .int a2)]) (st2 := [.int 64, .int 61]) jF_309_7 rfl rfl) ?_
  refine Eq.trans (jr_ic0 jF_309_9 (by decide +kernel)) ?_
  refine Eq.trans (jr_s (pc2 := 13) (lv2 := [(4, .int 61), (3, .int 0), (0, .long 0), (2, .int a2)]) (st2 := [.long 0]) jF_309_12 rfl rfl) ?_
  refine Eq.trans (jr_s (pc2 := 15) (lv2 := [(4, .int 61), (3, .int 0), (0, .long 0), (2, .int a2)]) (st2 := [.int 61, .long 0]) jF_309_13 rfl rfl) ?_
  refine Eq.trans (jr_s (pc2 := 16) (lv2 := [(4, .int 61), (3, .int 0), (0, .long 0), (2, .int a2)]) (st2 := [.long 0]) jF_309_15 rfl rfl) ?_
  refine Eq.trans (jr_s (pc2 := 17) (lv2 := [(4, .int 61), (3, .int 0), (0, .long 0), (2, .int a2)]) (st2 := [.long 1, .long 0]) jF_309_16 rfl rfl) ?_
  refine Eq.trans (jr_s (pc2 := 18) (lv2 := [(4, .int 61), (3, .int 0), (0, .long 0), (2, .int a2)]) (st2 := [.long 0]) jF_309_17 rfl rfl) ?_
  refine Eq.trans (jr_s (pc2 := 19) (lv2 := [(4, .int 61), (3, .int 0), (0, .long 0), (2, .int a2)]) (st2 := [.long 0, .long 0]) jF_309_18 rfl rfl) ?_
  refine Eq.trans (jr_s (pc2 := 20) (lv2 := [(4, .int 61), (3, .int 0), (0, .long 0), (2, .int a2)]) (st2 := [.int 0]) jF_309_19 rfl rfl) ?_
  refine Eq.trans (jr_if0 jF_309_20 (by decide +kernel)) ?_
  refine Eq.trans (jr_s (pc2 := 37) (lv2 := [(4, .int 61), (3, .int 0), (0, .long 0), (2, .int a2)]) (st2 := []) jF_309_23 rfl rfl) ?_
  refine Eq.trans (jr_s (pc2 := 40) (lv2 := [(4, .int 62), (3, .int 0), (0, .long 0), (2, .int a2)]) (st2 := []) jF_309_37 rfl rfl) ?_
  refine Eq.trans (jr_s (pc2 := 5) (lv2 := [(4, .int 62), (3, .int 0), (0, .long 0), (2, .int a2)]) (st2 := []) jF_309_40 rfl rfl) ?_
  refine Eq.trans (jr_s (pc2 := 7) (lv2 := [(4, .int 62), (3, .int 0), (0, .long 0), (2, .int a2)]) (st2 := [.int 62]) jF_309_5 rfl rfl) ?_
  refine Eq.trans (jr_s (pc2 := 9) (lv2 := [(4, .int 62), (3, .int 0), (0, .long 0), (2, .int a2)]) (st2 := [.int 64, .int 62]) jF_309_7 rfl rfl) ?_
  refine Eq.trans (jr_ic0 jF_309_9 (by decide +kernel)) ?_
  refine Eq.trans (jr_s (pc2 := 13) (lv2 := [(4, .int 62), (3, .int 0), (0, .long 0), (2, .int a2)]) (st2 := [.long 0]) jF_309_12 rfl rfl) ?_
  refine Eq.trans (jr_s (pc2 := 15) (lv2 := [(4, .int 62), (3, .int 0), (0, .long 0), (2, .int a2)]) (st2 := [.int 62, .long 0]) jF_309_13 rfl rfl) ?_
  refine Eq.trans (jr_s (pc2 := 16) (lv2 := [(4, .int 62), (3, .int 0), (0, .long 0), (2, .int a2)]) (st2 := [.long 0]) jF_309_15 rfl rfl) ?_
  refine Eq.trans (jr_s (pc2 := 17) (lv2 := [(4, .int 62), (3, .int 0), (0, .long 0), (2, .int a2)]) (st2 := [.long 1, .long 0]) jF_309_16 rfl rfl) ?_
  refine Eq.trans (jr_s (pc2 := 18) (lv2 := [(4, .int 62), (3, .int 0), (0, .long 0), (2, .int a2)]) (st2 := [.long 0]) jF_309_17 rfl rfl) ?_
  refine Eq.trans (jr_s (pc2 := 19) (lv2 := [(4, .int 62), (3, .int 0), (0, .long 0), (2, .int a2)]) (st2 := [.long 0, .long 0]) jF_309_18 rfl rfl) ?_
  refine Eq.trans (jr_s (pc2 := 20) (lv2 := [(4, .int 62), (3, .int 0), (0, .long 0), (2, .int a2)]) (st2 := [.int 0]) jF_309_19 rfl rfl) ?_
  refine Eq.trans (jr_if0 jF_309_20 (by decide +kernel)) ?_
  refine Eq.trans (jr_s (pc2 := 37) (lv2 := [(4, .int 62), (3, .int 0), (0, .long 0), (2, .int a2)]) (st2 := []) jF_309_23 rfl rfl) ?_
  refine Eq.trans (jr_s (pc2 := 40) (lv2 := [(4, .int 63), (3, .int 0), (0, .long 0), (2, .int a2)]) (st2 := []) jF_309_37 rfl rfl) ?_
  refine Eq.trans (jr_s (pc2 := 5) (lv2 := [(4, .int 63), (3, .int 0), (0, .long 0), (2, .int a2)]) (st2 := []) jF_309_40 rfl rfl) ?_
  refine Eq.trans (jr_s (pc2 := 7) (lv2 := [(4, .int 63), (3, .int 0), (0, .long 0), (2, .int a2)]) (st2 := [.int 63]) jF_309_5 rfl rfl) ?_
  refine Eq.trans (jr_s (pc2 := 9) (lv2 := [(4, .int 63), (3, .int 0), (0, .long 0), (2, .int a2)]) (st2 := [.int 64, .int 63]) jF_309_7 rfl rfl) ?_
  refine Eq.trans (jr_ic0 jF_309_9 (by decide +kernel)) ?_
  refine Eq.trans (jr_s (pc2 := 13) (lv2 := [(4, .int 63), (3, .int 0), (0, .long 0), (2, .int a2)]) (st2 := [.long 0]) jF_309_12 rfl rfl) ?_
  refine Eq.trans (jr_s (pc2 := 15) (lv2 := [(4, .int 63), (3, .int 0), (0, .long 0), (2, .int a2)]) (st2 := [.int 63, .long 0]) jF_309_13 rfl rfl) ?_
  refine Eq.trans (jr_s (pc2 := 16) (lv2 := [(4, .int 63), (3, .int 0), (0, .long 0), (2, .int a2)]) (st2 := [.long 0]) jF_309_15 rfl rfl) ?_
  refine Eq.trans (jr_s (pc2 := 17) (lv2 := [(4, .int 63), (3, .int 0), (0, .long 0), (2, .int a2)]) (st2 := [.long 1, .long 0]) jF_309_16 rfl rfl) ?_
  refine Eq.trans (jr_s (pc2 := 18) (lv2 := [(4, .int 63), (3, .int 0), (0, .long 0), (2, .int a2)]) (st2 := [.long 0]) jF_309_17 rfl rfl) ?_
  refine Eq.trans (jr_s (pc2 := 19) (lv2 := [(4, .int 63), (3, .int 0), (0, .long 0), (2, .int a2)]) (st2 := [.long 0, .long 0]) jF_309_18 rfl rfl) ?_
  refine Eq.trans (jr_s (pc2 := 20) (lv2 := [(4, .int 63), (3, .int 0), (0, .long 0), (2, .int a2)]) (st2 := [.int 0]) jF_309_19 rfl rfl) ?_
  refine Eq.trans (jr_if0 jF_309_20 (by decide +kernel)) ?_
  refine Eq.trans (jr_s (pc2 := 37) (lv2 := [(4, .int 63), (3, .int 0), (0, .long 0), (2, .int a2)]) (st2 := []) jF_309_23 rfl rfl) ?_
  refine Eq.trans (jr_s (pc2 := 40) (lv2 := [(4, .int 64), (3, .int 0), (0, .long 0), (2, .int a2)]) (st2 := []) jF_309_37 rfl rfl) ?_
  refine Eq.trans (jr_s (pc2 := 5) (lv2 := [(4, .int 64), (3, .int 0), (0, .long 0), (2, .int a2)]) (st2 := []) jF_309_40 rfl rfl) ?_
  refine Eq.trans (jr_s (pc2 := 7) (lv2 := [(4, .int 64), (3, .int 0), (0, .long 0), (2, .int a2)]) (st2 := [.int 64]) jF_309_5 rfl rfl) ?_
  refine Eq.trans (jr_s (pc2 := 9) (lv2 := [(4, .int 64), (3, .int 0), (0, .long 0), (2, .int a2)]) (st2 := [.int 64, .int 64]) jF_309_7 rfl rfl) ?_
  refine Eq.trans (jr_ic1 jF_309_9 (by decide +kernel)) ?_
  refine Eq.trans (jr_s (pc2 := 44) (lv2 := [(4, .int 64), (3, .int 0), (0, .long 0), (2, .int a2)]) (st2 := [.int (-1)]) jF_309_43 rfl rfl) ?_
  exact jr_ri jF_309_44 rfl
set_option maxHeartbeats 8000000 in
set_option maxRecDepth 100000 in
theorem pm_hole_0 (a2 : Int32) : PM 151 308 [.int 0, .int a2] := by
  have ub_a2 := Int32.toInt_lt a2
  have lb_a2 := Int32.le_toInt a2
  refine ⟨60000, 60000, (-1), jh2, (j_hp (JR 37 277 0 (lv_args 0 [.ref 117, .int 1]) [] (j_hp (JR 37 277 0 (lv_args 0 [.ref 117, .int 0]) [] jh2 0 0 499 19979)) 0 0 499 19979)), ?_, ?_, by decide +kernel⟩
  · refine Eq.trans (jr_s (pc2 := 1) (lv2 := [(0, .ref 9), (1, .int 0), (2, .int a2)]) (st2 := [.int 0]) jF_151_0 rfl rfl) ?_
    refine Eq.trans (jr_if1 jF_151_1 (by decide +kernel)) ?_
    refine Eq.trans (jr_s (pc2 := 27) (lv2 := [(0, .ref 9), (1, .int 0), (2, .int a2)]) (st2 := [.ref 9]) jF_151_26 rfl rfl) ?_
    refine Eq.trans (jr_gf (v := .ref 70) jF_151_27 (by decide +kernel)) ?_
    refine Eq.trans (jr_gf (v := .long 0) jF_151_30 (by decide +kernel)) ?_
    refine Eq.trans (jr_s (pc2 := 34) (lv2 := [(0, .ref 9), (1, .int 0), (2, .int a2)]) (st2 := [.ref 9, .long 0]) jF_151_33 rfl rfl) ?_
    refine Eq.trans (jr_gf (v := .ref 75) jF_151_34 (by decide +kernel)) ?_
    refine Eq.trans (jr_gf (v := .long 0) jF_151_37 (by decide +kernel)) ?_
    refine Eq.trans (jr_s (pc2 := 43) (lv2 := [(0, .ref 9), (1, .int 0), (2, .int a2)]) (st2 := [.long (-1), .long 0, .long 0]) jF_151_40 rfl rfl) ?_
    refine Eq.trans (jr_s (pc2 := 44) (lv2 := [(0, .ref 9), (1, .int 0), (2, .int a2)]) (st2 := [.long (-1), .long 0]) jF_151_43 rfl rfl) ?_
    refine Eq.trans (jr_s (pc2 := 45) (lv2 := [(0, .ref 9), (1, .int 0), (2, .int a2)]) (st2 := [.long 0]) jF_151_44 rfl rfl) ?_
    refine Eq.trans (jr_s (pc2 := 46) (lv2 := [(3, .long 0), (0, .ref 9), (1, .int 0), (2, .int a2)]) (st2 := []) jF_151_45 rfl rfl) ?_
    refine Eq.trans (jr_s (pc2 := 47) (lv2 := [(3, .long 0), (0, .ref 9), (1, .int 0), (2, .int a2)]) (st2 := [.long 0]) jF_151_46 rfl rfl) ?_
    refine Eq.trans (jr_s (pc2 := 48) (lv2 := [(3, .long 0), (0, .ref 9), (1, .int 0), (2, .int a2)]) (st2 := [.int a2, .long 0]) jF_151_47 rfl rfl) ?_
    refine Eq.trans (jr_cS (as := [.long 0, .int a2]) (rest := []) (v := some (.int (-1))) (hp2 := jh2) (fr2 := 499) (lo2 := 19976) jF_151_48 rfl (show j_cnd 500 20000 499 19976 5 _ _ = true from rfl) ?_) ?_
    · exact jr_upl (pl_hole_0 0 a2) (by omega)
    exact jr_ri jF_151_51 rfl
  · refine Eq.trans (jr_s (pc2 := 1) (lv2 := [(0, .ref 117), (1, .int 0), (2, .int a2)]) (st2 := [.ref 117]) jF_308_0 rfl rfl) ?_
    refine Eq.trans (jr_s (pc2 := 2) (lv2 := [(0, .ref 117), (1, .int 0), (2, .int a2)]) (st2 := [.int 0, .ref 117]) jF_308_1 rfl rfl) ?_
    refine Eq.trans (jr_cV (a := 117) (as := [.int 0]) (rest := []) (v := some (.long 0)) (hp2 := (j_hp (JR 37 277 0 (lv_args 0 [.ref 117, .int 0]) [] jh2 0 0 499 19979))) (fr2 := 499) (lo2 := 19979) jF_308_2 (by decide +kernel) rfl (show j_cnd 500 20000 499 19979 2 _ _ = true from rfl) ?_) ?_
    · exact jr_upl (jr_cl (v := some (.long 0)) (by decide +kernel)) (by omega)
    refine Eq.trans (jr_s (pc2 := 6) (lv2 := [(3, .long 0), (0, .ref 117), (1, .int 0), (2, .int a2)]) (st2 := []) jF_308_5 rfl rfl) ?_
    refine Eq.trans (jr_s (pc2 := 7) (lv2 := [(3, .long 0), (0, .ref 117), (1, .int 0), (2, .int a2)]) (st2 := [.ref 117]) jF_308_6 rfl rfl) ?_
    refine Eq.trans (jr_s (pc2 := 8) (lv2 := [(3, .long 0), (0, .ref 117), (1, .int 0), (2, .int a2)]) (st2 := [.int 1, .ref 117]) jF_308_7 rfl rfl) ?_
    refine Eq.trans (jr_cV (a := 117) (as := [.int 1]) (rest := []) (v := some (.long 0)) (hp2 := (j_hp (JR 37 277 0 (lv_args 0 [.ref 117, .int 1]) [] (j_hp (JR 37 277 0 (lv_args 0 [.ref 117, .int 0]) [] jh2 0 0 499 19979)) 0 0 499 19979))) (fr2 := 499) (lo2 := 19979) jF_308_8 (by decide +kernel) rfl (show j_cnd 500 20000 499 19979 2 _ _ = true from rfl) ?_) ?_
    · exact jr_upl (jr_cl (v := some (.long 0)) (by decide +kernel)) (by omega)
    refine Eq.trans (jr_s (pc2 := 13) (lv2 := [(5, .long 0), (3, .long 0), (0, .ref 117), (1, .int 0), (2, .int a2)]) (st2 := []) jF_308_11 rfl rfl) ?_
    refine Eq.trans (jr_s (pc2 := 14) (lv2 := [(5, .long 0), (3, .long 0), (0, .ref 117), (1, .int 0), (2, .int a2)]) (st2 := [.int 0]) jF_308_13 rfl rfl) ?_
    refine Eq.trans (jr_if1 jF_308_14 (by decide +kernel)) ?_
    refine Eq.trans (jr_s (pc2 := 29) (lv2 := [(5, .long 0), (3, .long 0), (0, .ref 117), (1, .int 0), (2, .int a2)]) (st2 := [.long 0]) jF_308_28 rfl rfl) ?_
    refine Eq.trans (jr_s (pc2 := 31) (lv2 := [(5, .long 0), (3, .long 0), (0, .ref 117), (1, .int 0), (2, .int a2)]) (st2 := [.long 0, .long 0]) jF_308_29 rfl rfl) ?_
    refine Eq.trans (jr_s (pc2 := 34) (lv2 := [(5, .long 0), (3, .long 0), (0, .ref 117), (1, .int 0), (2, .int a2)]) (st2 := [.long (-1), .long 0, .long 0]) jF_308_31 rfl rfl) ?_
    refine Eq.trans (jr_s (pc2 := 35) (lv2 := [(5, .long 0), (3, .long 0), (0, .ref 117), (1, .int 0), (2, .int a2)]) (st2 := [.long (-1), .long 0]) jF_308_34 rfl rfl) ?_
    refine Eq.trans (jr_s (pc2 := 36) (lv2 := [(5, .long 0), (3, .long 0), (0, .ref 117), (1, .int 0), (2, .int a2)]) (st2 := [.long 0]) jF_308_35 rfl rfl) ?_
    refine Eq.trans (jr_s (pc2 := 37) (lv2 := [(5, .long 0), (3, .long 0), (0, .ref 117), (1, .int 0), (2, .int a2)]) (st2 := [.int a2, .long 0]) jF_308_36 rfl rfl) ?_
    refine Eq.trans (jr_cS (as := [.long 0, .int a2]) (rest := []) (v := some (.int (-1))) (hp2 := (j_hp (JR 37 277 0 (lv_args 0 [.ref 117, .int 1]) [] (j_hp (JR 37 277 0 (lv_args 0 [.ref 117, .int 0]) [] jh2 0 0 499 19979)) 0 0 499 19979))) (fr2 := 499) (lo2 := 19976) jF_308_37 rfl (show j_cnd 500 20000 499 19976 5 _ _ = true from rfl) ?_) ?_
    · exact jr_upl (pl_hole_1 0 a2) (by omega)
    exact jr_ri jF_308_40 rfl
set_option maxHeartbeats 8000000 in
set_option maxRecDepth 100000 in
theorem pm_hole_1 (a2 : Int32) : PM 151 308 [.int 1, .int a2] := by
  have ub_a2 := Int32.toInt_lt a2
  have lb_a2 := Int32.le_toInt a2
  refine ⟨60000, 60000, (-1), jh2, (j_hp (JR 37 277 0 (lv_args 0 [.ref 117, .int 1]) [] (j_hp (JR 37 277 0 (lv_args 0 [.ref 117, .int 0]) [] jh2 0 0 499 19979)) 0 0 499 19979)), ?_, ?_, by decide +kernel⟩
  · refine Eq.trans (jr_s (pc2 := 1) (lv2 := [(0, .ref 9), (1, .int 1), (2, .int a2)]) (st2 := [.int 1]) jF_151_0 rfl rfl) ?_
    refine Eq.trans (jr_if0 jF_151_1 (by decide +kernel)) ?_
    refine Eq.trans (jr_s (pc2 := 5) (lv2 := [(0, .ref 9), (1, .int 1), (2, .int a2)]) (st2 := [.ref 9]) jF_151_4 rfl rfl) ?_
    refine Eq.trans (jr_gf (v := .ref 75) jF_151_5 (by decide +kernel)) ?_
    refine Eq.trans (jr_gf (v := .long 0) jF_151_8 (by decide +kernel)) ?_
    refine Eq.trans (jr_s (pc2 := 12) (lv2 := [(0, .ref 9), (1, .int 1), (2, .int a2)]) (st2 := [.ref 9, .long 0]) jF_151_11 rfl rfl) ?_
    refine Eq.trans (jr_gf (v := .ref 70) jF_151_12 (by decide +kernel)) ?_
    refine Eq.trans (jr_gf (v := .long 0) jF_151_15 (by decide +kernel)) ?_
    refine Eq.trans (jr_s (pc2 := 21) (lv2 := [(0, .ref 9), (1, .int 1), (2, .int a2)]) (st2 := [.long (-1), .long 0, .long 0]) jF_151_18 rfl rfl) ?_
    refine Eq.trans (jr_s (pc2 := 22) (lv2 := [(0, .ref 9), (1, .int 1), (2, .int a2)]) (st2 := [.long (-1), .long 0]) jF_151_21 rfl rfl) ?_
    refine Eq.trans (jr_s (pc2 := 23) (lv2 := [(0, .ref 9), (1, .int 1), (2, .int a2)]) (st2 := [.long 0]) jF_151_22 rfl rfl) ?_
    refine Eq.trans (jr_s (pc2 := 45) (lv2 := [(0, .ref 9), (1, .int 1), (2, .int a2)]) (st2 := [.long 0]) jF_151_23 rfl rfl) ?_
    refine Eq.trans (jr_s (pc2 := 46) (lv2 := [(3, .long 0), (0, .ref 9), (1, .int 1), (2, .int a2)]) (st2 := []) jF_151_45 rfl rfl) ?_
    refine Eq.trans (jr_s (pc2 := 47) (lv2 := [(3, .long 0), (0, .ref 9), (1, .int 1), (2, .int a2)]) (st2 := [.long 0]) jF_151_46 rfl rfl) ?_
    refine Eq.trans (jr_s (pc2 := 48) (lv2 := [(3, .long 0), (0, .ref 9), (1, .int 1), (2, .int a2)]) (st2 := [.int a2, .long 0]) jF_151_47 rfl rfl) ?_
    refine Eq.trans (jr_cS (as := [.long 0, .int a2]) (rest := []) (v := some (.int (-1))) (hp2 := jh2) (fr2 := 499) (lo2 := 19976) jF_151_48 rfl (show j_cnd 500 20000 499 19976 5 _ _ = true from rfl) ?_) ?_
    · exact jr_upl (pl_hole_0 0 a2) (by omega)
    exact jr_ri jF_151_51 rfl
  · refine Eq.trans (jr_s (pc2 := 1) (lv2 := [(0, .ref 117), (1, .int 1), (2, .int a2)]) (st2 := [.ref 117]) jF_308_0 rfl rfl) ?_
    refine Eq.trans (jr_s (pc2 := 2) (lv2 := [(0, .ref 117), (1, .int 1), (2, .int a2)]) (st2 := [.int 0, .ref 117]) jF_308_1 rfl rfl) ?_
    refine Eq.trans (jr_cV (a := 117) (as := [.int 0]) (rest := []) (v := some (.long 0)) (hp2 := (j_hp (JR 37 277 0 (lv_args 0 [.ref 117, .int 0]) [] jh2 0 0 499 19979))) (fr2 := 499) (lo2 := 19979) jF_308_2 (by decide +kernel) rfl (show j_cnd 500 20000 499 19979 2 _ _ = true from rfl) ?_) ?_
    · exact jr_upl (jr_cl (v := some (.long 0)) (by decide +kernel)) (by omega)
    refine Eq.trans (jr_s (pc2 := 6) (lv2 := [(3, .long 0), (0, .ref 117), (1, .int 1), (2, .int a2)]) (st2 := []) jF_308_5 rfl rfl) ?_
    refine Eq.trans (jr_s (pc2 := 7) (lv2 := [(3, .long 0), (0, .ref 117), (1, .int 1), (2, .int a2)]) (st2 := [.ref 117]) jF_308_6 rfl rfl) ?_
    refine Eq.trans (jr_s (pc2 := 8) (lv2 := [(3, .long 0), (0, .ref 117), (1, .int 1), (2, .int a2)]) (st2 := [.int 1, .ref 117]) jF_308_7 rfl rfl) ?_
    refine Eq.trans (jr_cV (a := 117) (as := [.int 1]) (rest := []) (v := some (.long 0)) (hp2 := (j_hp (JR 37 277 0 (lv_args 0 [.ref 117, .int 1]) [] (j_hp (JR 37 277 0 (lv_args 0 [.ref 117, .int 0]) [] jh2 0 0 499 19979)) 0 0 499 19979))) (fr2 := 499) (lo2 := 19979) jF_308_8 (by decide +kernel) rfl (show j_cnd 500 20000 499 19979 2 _ _ = true from rfl) ?_) ?_
    · exact jr_upl (jr_cl (v := some (.long 0)) (by decide +kernel)) (by omega)
    refine Eq.trans (jr_s (pc2 := 13) (lv2 := [(5, .long 0), (3, .long 0), (0, .ref 117), (1, .int 1), (2, .int a2)]) (st2 := []) jF_308_11 rfl rfl) ?_
    refine Eq.trans (jr_s (pc2 := 14) (lv2 := [(5, .long 0), (3, .long 0), (0, .ref 117), (1, .int 1), (2, .int a2)]) (st2 := [.int 1]) jF_308_13 rfl rfl) ?_
    refine Eq.trans (jr_if0 jF_308_14 (by decide +kernel)) ?_
    refine Eq.trans (jr_s (pc2 := 19) (lv2 := [(5, .long 0), (3, .long 0), (0, .ref 117), (1, .int 1), (2, .int a2)]) (st2 := [.long 0]) jF_308_17 rfl rfl) ?_
    refine Eq.trans (jr_s (pc2 := 20) (lv2 := [(5, .long 0), (3, .long 0), (0, .ref 117), (1, .int 1), (2, .int a2)]) (st2 := [.long 0, .long 0]) jF_308_19 rfl rfl) ?_
    refine Eq.trans (jr_s (pc2 := 23) (lv2 := [(5, .long 0), (3, .long 0), (0, .ref 117), (1, .int 1), (2, .int a2)]) (st2 := [.long (-1), .long 0, .long 0]) jF_308_20 rfl rfl) ?_
    refine Eq.trans (jr_s (pc2 := 24) (lv2 := [(5, .long 0), (3, .long 0), (0, .ref 117), (1, .int 1), (2, .int a2)]) (st2 := [.long (-1), .long 0]) jF_308_23 rfl rfl) ?_
    refine Eq.trans (jr_s (pc2 := 25) (lv2 := [(5, .long 0), (3, .long 0), (0, .ref 117), (1, .int 1), (2, .int a2)]) (st2 := [.long 0]) jF_308_24 rfl rfl) ?_
    refine Eq.trans (jr_s (pc2 := 36) (lv2 := [(5, .long 0), (3, .long 0), (0, .ref 117), (1, .int 1), (2, .int a2)]) (st2 := [.long 0]) jF_308_25 rfl rfl) ?_
    refine Eq.trans (jr_s (pc2 := 37) (lv2 := [(5, .long 0), (3, .long 0), (0, .ref 117), (1, .int 1), (2, .int a2)]) (st2 := [.int a2, .long 0]) jF_308_36 rfl rfl) ?_
    refine Eq.trans (jr_cS (as := [.long 0, .int a2]) (rest := []) (v := some (.int (-1))) (hp2 := (j_hp (JR 37 277 0 (lv_args 0 [.ref 117, .int 1]) [] (j_hp (JR 37 277 0 (lv_args 0 [.ref 117, .int 0]) [] jh2 0 0 499 19979)) 0 0 499 19979))) (fr2 := 499) (lo2 := 19976) jF_308_37 rfl (show j_cnd 500 20000 499 19976 5 _ _ = true from rfl) ?_) ?_
    · exact jr_upl (pl_hole_1 0 a2) (by omega)
    exact jr_ri jF_308_40 rfl
