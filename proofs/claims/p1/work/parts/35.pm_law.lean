set_option maxHeartbeats 8000000 in
set_option maxRecDepth 100000 in
theorem pm_law_0 : PM 74 251 [.int 0] := by
  exact jpair_ok (n1 := 100000) (n2 := 100000) (by decide +kernel)
set_option maxHeartbeats 8000000 in
set_option maxRecDepth 100000 in
theorem pm_law_1 : PM 74 251 [.int 1] := by
  exact jpair_ok (n1 := 100000) (n2 := 100000) (by decide +kernel)
