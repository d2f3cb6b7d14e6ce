/-! CODE. -/
theorem jF_262_0 : j_F 262 0 = some (.aload_n 0, 1, 0, 0, .null, .int) := by decide +kernel
theorem jF_262_1 : j_F 262 1 = some (.aload_n 0, 1, 0, 0, .null, .int) := by decide +kernel
theorem jF_262_2 : j_F 262 2 = some (.getfield 457, 3, 12, 53, .null, .int) := by decide +kernel
theorem jF_262_5 : j_F 262 5 = some (.iconst 1, 1, 0, 0, .null, .int) := by decide +kernel
theorem jF_262_6 : j_F 262 6 = some (.iadd, 1, 0, 0, .null, .int) := by decide +kernel
theorem jF_262_7 : j_F 262 7 = some (.bipush 20, 2, 0, 0, .null, .int) := by decide +kernel
theorem jF_262_9 : j_F 262 9 = some (.irem, 1, 0, 0, .null, .int) := by decide +kernel
theorem jF_262_10 : j_F 262 10 = some (.putfield 457, 3, 12, 53, .null, .int) := by decide +kernel
theorem jF_262_13 : j_F 262 13 = some (.aload_n 0, 1, 0, 0, .null, .int) := by decide +kernel
theorem jF_262_14 : j_F 262 14 = some (.getfield 118, 3, 12, 51, .null, (.array .int)) := by decide +kernel
theorem jF_262_17 : j_F 262 17 = some (.aload_n 0, 1, 0, 0, .null, .int) := by decide +kernel
theorem jF_262_18 : j_F 262 18 = some (.getfield 457, 3, 12, 53, .null, .int) := by decide +kernel
theorem jF_262_21 : j_F 262 21 = some (.aload_n 0, 1, 0, 0, .null, .int) := by decide +kernel
theorem jF_262_22 : j_F 262 22 = some (.getfield 109, 3, 12, 47, .null, (.array .int)) := by decide +kernel
theorem jF_262_25 : j_F 262 25 = some (.iconst 0, 1, 0, 0, .null, .int) := by decide +kernel
theorem jF_262_26 : j_F 262 26 = some (.iaload, 1, 0, 0, .null, .int) := by decide +kernel
theorem jF_262_27 : j_F 262 27 = some (.iastore, 1, 0, 0, .null, .int) := by decide +kernel
theorem jF_262_28 : j_F 262 28 = some (.iconst 0, 1, 0, 0, .null, .int) := by decide +kernel
theorem jF_262_29 : j_F 262 29 = some (.istore_n 1, 1, 0, 0, .null, .int) := by decide +kernel
theorem jF_262_30 : j_F 262 30 = some (.iload_n 1, 1, 0, 0, .null, .int) := by decide +kernel
theorem jF_262_31 : j_F 262 31 = some (.aload_n 0, 1, 0, 0, .null, .int) := by decide +kernel
theorem jF_262_32 : j_F 262 32 = some (.getfield 109, 3, 12, 47, .null, (.array .int)) := by decide +kernel
theorem jF_262_35 : j_F 262 35 = some (.iconst 0, 1, 0, 0, .null, .int) := by decide +kernel
theorem jF_262_36 : j_F 262 36 = some (.iaload, 1, 0, 0, .null, .int) := by decide +kernel
theorem jF_262_37 : j_F 262 37 = some (.if_icmp .ge 29, 3, 66, 0, .null, .int) := by decide +kernel
theorem jF_262_40 : j_F 262 40 = some (.aload_n 0, 1, 0, 0, .null, .int) := by decide +kernel
theorem jF_262_41 : j_F 262 41 = some (.getfield 115, 3, 12, 50, .null, (.array .int)) := by decide +kernel
theorem jF_262_44 : j_F 262 44 = some (.bipush 64, 2, 0, 0, .null, .int) := by decide +kernel
theorem jF_262_46 : j_F 262 46 = some (.aload_n 0, 1, 0, 0, .null, .int) := by decide +kernel
theorem jF_262_47 : j_F 262 47 = some (.getfield 457, 3, 12, 53, .null, .int) := by decide +kernel
theorem jF_262_50 : j_F 262 50 = some (.imul, 1, 0, 0, .null, .int) := by decide +kernel
theorem jF_262_51 : j_F 262 51 = some (.iload_n 1, 1, 0, 0, .null, .int) := by decide +kernel
theorem jF_262_52 : j_F 262 52 = some (.iadd, 1, 0, 0, .null, .int) := by decide +kernel
theorem jF_262_53 : j_F 262 53 = some (.aload_n 0, 1, 0, 0, .null, .int) := by decide +kernel
theorem jF_262_54 : j_F 262 54 = some (.getfield 106, 3, 12, 46, .null, (.array .int)) := by decide +kernel
theorem jF_262_57 : j_F 262 57 = some (.iload_n 1, 1, 0, 0, .null, .int) := by decide +kernel
theorem jF_262_58 : j_F 262 58 = some (.iaload, 1, 0, 0, .null, .int) := by decide +kernel
theorem jF_262_59 : j_F 262 59 = some (.iastore, 1, 0, 0, .null, .int) := by decide +kernel
theorem jF_262_60 : j_F 262 60 = some (.iinc 1 1, 3, 0, 0, .null, .int) := by decide +kernel
theorem jF_262_63 : j_F 262 63 = some (.goto (-33), 3, 30, 0, .null, .int) := by decide +kernel
theorem jF_262_66 : j_F 262 66 = some (.aload_n 0, 1, 0, 0, .null, .int) := by decide +kernel
theorem jF_262_67 : j_F 262 67 = some (.getfield 343, 3, 12, 52, .null, .int) := by decide +kernel
theorem jF_262_70 : j_F 262 70 = some (.bipush 20, 2, 0, 0, .null, .int) := by decide +kernel
theorem jF_262_72 : j_F 262 72 = some (.if_icmp .ge 13, 3, 85, 0, .null, .int) := by decide +kernel
theorem jF_262_75 : j_F 262 75 = some (.aload_n 0, 1, 0, 0, .null, .int) := by decide +kernel
theorem jF_262_76 : j_F 262 76 = some (.dup, 1, 0, 0, .null, .int) := by decide +kernel
theorem jF_262_77 : j_F 262 77 = some (.getfield 343, 3, 12, 52, .null, .int) := by decide +kernel
theorem jF_262_80 : j_F 262 80 = some (.iconst 1, 1, 0, 0, .null, .int) := by decide +kernel
theorem jF_262_81 : j_F 262 81 = some (.iadd, 1, 0, 0, .null, .int) := by decide +kernel
theorem jF_262_82 : j_F 262 82 = some (.putfield 343, 3, 12, 52, .null, .int) := by decide +kernel
theorem jF_262_85 : j_F 262 85 = some (.return_, 1, 0, 0, .null, .int) := by decide +kernel
