/-! CODE. -/
theorem jF_263_0 : j_F 263 0 = some (.aload_n 0, 1, 0, 0, .null, .int) := by decide +kernel
theorem jF_263_1 : j_F 263 1 = some (.getfield 109, 3, 12, 47, .null, (.array .int)) := by decide +kernel
theorem jF_263_4 : j_F 263 4 = some (.iload_n 1, 1, 0, 0, .null, .int) := by decide +kernel
theorem jF_263_5 : j_F 263 5 = some (.aload_n 0, 1, 0, 0, .null, .int) := by decide +kernel
theorem jF_263_6 : j_F 263 6 = some (.getfield 401, 3, 12, 49, .null, .int) := by decide +kernel
theorem jF_263_9 : j_F 263 9 = some (.iastore, 1, 0, 0, .null, .int) := by decide +kernel
theorem jF_263_10 : j_F 263 10 = some (.iconst 0, 1, 0, 0, .null, .int) := by decide +kernel
theorem jF_263_11 : j_F 263 11 = some (.istore_n 2, 1, 0, 0, .null, .int) := by decide +kernel
theorem jF_263_12 : j_F 263 12 = some (.iload_n 2, 1, 0, 0, .null, .int) := by decide +kernel
theorem jF_263_13 : j_F 263 13 = some (.aload_n 0, 1, 0, 0, .null, .int) := by decide +kernel
theorem jF_263_14 : j_F 263 14 = some (.getfield 401, 3, 12, 49, .null, .int) := by decide +kernel
theorem jF_263_17 : j_F 263 17 = some (.if_icmp .ge 26, 3, 43, 0, .null, .int) := by decide +kernel
theorem jF_263_20 : j_F 263 20 = some (.aload_n 0, 1, 0, 0, .null, .int) := by decide +kernel
theorem jF_263_21 : j_F 263 21 = some (.getfield 106, 3, 12, 46, .null, (.array .int)) := by decide +kernel
theorem jF_263_24 : j_F 263 24 = some (.bipush 64, 2, 0, 0, .null, .int) := by decide +kernel
theorem jF_263_26 : j_F 263 26 = some (.iload_n 1, 1, 0, 0, .null, .int) := by decide +kernel
theorem jF_263_27 : j_F 263 27 = some (.imul, 1, 0, 0, .null, .int) := by decide +kernel
theorem jF_263_28 : j_F 263 28 = some (.iload_n 2, 1, 0, 0, .null, .int) := by decide +kernel
theorem jF_263_29 : j_F 263 29 = some (.iadd, 1, 0, 0, .null, .int) := by decide +kernel
theorem jF_263_30 : j_F 263 30 = some (.aload_n 0, 1, 0, 0, .null, .int) := by decide +kernel
theorem jF_263_31 : j_F 263 31 = some (.getfield 112, 3, 12, 48, .null, (.array .int)) := by decide +kernel
theorem jF_263_34 : j_F 263 34 = some (.iload_n 2, 1, 0, 0, .null, .int) := by decide +kernel
theorem jF_263_35 : j_F 263 35 = some (.iaload, 1, 0, 0, .null, .int) := by decide +kernel
theorem jF_263_36 : j_F 263 36 = some (.iastore, 1, 0, 0, .null, .int) := by decide +kernel
theorem jF_263_37 : j_F 263 37 = some (.iinc 2 1, 3, 0, 0, .null, .int) := by decide +kernel
theorem jF_263_40 : j_F 263 40 = some (.goto (-28), 3, 12, 0, .null, .int) := by decide +kernel
theorem jF_263_43 : j_F 263 43 = some (.return_, 1, 0, 0, .null, .int) := by decide +kernel
