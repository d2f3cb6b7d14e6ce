set_option maxHeartbeats 8000000 in
set_option maxRecDepth 100000 in
theorem pm_votes_0 : PM 157 314 [.int 0] := by
  exact jpair_ok (n1 := 100000) (n2 := 100000) (by decide +kernel)
set_option maxHeartbeats 8000000 in
set_option maxRecDepth 100000 in
theorem pm_votes_1 : PM 157 314 [.int 1] := by
  exact jpair_ok (n1 := 100000) (n2 := 100000) (by decide +kernel)
