/-! CODE. -/
theorem jF_257_0 : j_F 257 0 = some (.aload_n 0, 1, 0, 0, .null, .int) := by decide +kernel
theorem jF_257_1 : j_F 257 1 = some (.aload_n 0, 1, 0, 0, .null, .int) := by decide +kernel
theorem jF_257_2 : j_F 257 2 = some (.getfield 368, 3, 12, 44, .null, .int) := by decide +kernel
theorem jF_257_5 : j_F 257 5 = some (.putfield 401, 3, 12, 49, .null, .int) := by decide +kernel
theorem jF_257_8 : j_F 257 8 = some (.iconst 0, 1, 0, 0, .null, .int) := by decide +kernel
theorem jF_257_9 : j_F 257 9 = some (.istore_n 1, 1, 0, 0, .null, .int) := by decide +kernel
theorem jF_257_10 : j_F 257 10 = some (.iload_n 1, 1, 0, 0, .null, .int) := by decide +kernel
theorem jF_257_11 : j_F 257 11 = some (.aload_n 0, 1, 0, 0, .null, .int) := by decide +kernel
theorem jF_257_12 : j_F 257 12 = some (.getfield 368, 3, 12, 44, .null, .int) := by decide +kernel
theorem jF_257_15 : j_F 257 15 = some (.if_icmp .ge 21, 3, 36, 0, .null, .int) := by decide +kernel
theorem jF_257_18 : j_F 257 18 = some (.aload_n 0, 1, 0, 0, .null, .int) := by decide +kernel
theorem jF_257_19 : j_F 257 19 = some (.getfield 112, 3, 12, 48, .null, (.array .int)) := by decide +kernel
theorem jF_257_22 : j_F 257 22 = some (.iload_n 1, 1, 0, 0, .null, .int) := by decide +kernel
theorem jF_257_23 : j_F 257 23 = some (.aload_n 0, 1, 0, 0, .null, .int) := by decide +kernel
theorem jF_257_24 : j_F 257 24 = some (.getfield 103, 3, 12, 43, .null, (.array .int)) := by decide +kernel
theorem jF_257_27 : j_F 257 27 = some (.iload_n 1, 1, 0, 0, .null, .int) := by decide +kernel
theorem jF_257_28 : j_F 257 28 = some (.iaload, 1, 0, 0, .null, .int) := by decide +kernel
theorem jF_257_29 : j_F 257 29 = some (.iastore, 1, 0, 0, .null, .int) := by decide +kernel
theorem jF_257_30 : j_F 257 30 = some (.iinc 1 1, 3, 0, 0, .null, .int) := by decide +kernel
theorem jF_257_33 : j_F 257 33 = some (.goto (-23), 3, 10, 0, .null, .int) := by decide +kernel
theorem jF_257_36 : j_F 257 36 = some (.return_, 1, 0, 0, .null, .int) := by decide +kernel
