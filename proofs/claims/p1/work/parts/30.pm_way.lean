set_option maxHeartbeats 8000000 in
set_option maxRecDepth 100000 in
theorem pm_way : PM 144 301 [] := by
  exact jpair_ok (n1 := 100000) (n2 := 100000) (by decide +kernel)
