theorem jF_216_0 : j_F 216 0 = some (.aload_n 0, 1, 0, 0, .null, .int) := by decide +kernel
theorem jF_216_1 : j_F 216 1 = some (.getfield 218, 3, 12, 2, .null, .int) := by decide +kernel
theorem jF_216_4 : j_F 216 4 = some (.aload_n 0, 1, 0, 0, .null, .int) := by decide +kernel
theorem jF_216_5 : j_F 216 5 = some (.getfield 221, 3, 12, 3, .null, .int) := by decide +kernel
theorem jF_216_8 : j_F 216 8 = some (.if_icmp .ge 44, 3, 52, 0, .null, .int) := by decide +kernel
theorem jF_216_11 : j_F 216 11 = some (.aload_n 0, 1, 0, 0, .null, .int) := by decide +kernel
theorem jF_216_12 : j_F 216 12 = some (.getfield 7, 3, 12, 0, .null, (.array .int)) := by decide +kernel
theorem jF_216_15 : j_F 216 15 = some (.aload_n 0, 1, 0, 0, .null, .int) := by decide +kernel
theorem jF_216_16 : j_F 216 16 = some (.getfield 218, 3, 12, 2, .null, .int) := by decide +kernel
theorem jF_216_19 : j_F 216 19 = some (.iaload, 1, 0, 0, .null, .int) := by decide +kernel
theorem jF_216_20 : j_F 216 20 = some (.bipush 10, 2, 0, 0, .null, .int) := by decide +kernel
theorem jF_216_22 : j_F 216 22 = some (.if_icmp .eq 17, 3, 39, 0, .null, .int) := by decide +kernel
theorem jF_216_25 : j_F 216 25 = some (.aload_n 0, 1, 0, 0, .null, .int) := by decide +kernel
theorem jF_216_26 : j_F 216 26 = some (.getfield 7, 3, 12, 0, .null, (.array .int)) := by decide +kernel
theorem jF_216_29 : j_F 216 29 = some (.aload_n 0, 1, 0, 0, .null, .int) := by decide +kernel
theorem jF_216_30 : j_F 216 30 = some (.getfield 218, 3, 12, 2, .null, .int) := by decide +kernel
theorem jF_216_33 : j_F 216 33 = some (.iaload, 1, 0, 0, .null, .int) := by decide +kernel
theorem jF_216_34 : j_F 216 34 = some (.bipush 32, 2, 0, 0, .null, .int) := by decide +kernel
theorem jF_216_36 : j_F 216 36 = some (.if_icmp .ne 16, 3, 52, 0, .null, .int) := by decide +kernel
theorem jF_216_39 : j_F 216 39 = some (.aload_n 0, 1, 0, 0, .null, .int) := by decide +kernel
theorem jF_216_40 : j_F 216 40 = some (.dup, 1, 0, 0, .null, .int) := by decide +kernel
theorem jF_216_41 : j_F 216 41 = some (.getfield 218, 3, 12, 2, .null, .int) := by decide +kernel
theorem jF_216_44 : j_F 216 44 = some (.iconst 1, 1, 0, 0, .null, .int) := by decide +kernel
theorem jF_216_45 : j_F 216 45 = some (.iadd, 1, 0, 0, .null, .int) := by decide +kernel
theorem jF_216_46 : j_F 216 46 = some (.putfield 218, 3, 12, 2, .null, .int) := by decide +kernel
theorem jF_216_49 : j_F 216 49 = some (.goto (-49), 3, 0, 0, .null, .int) := by decide +kernel
theorem jF_216_52 : j_F 216 52 = some (.aload_n 0, 1, 0, 0, .null, .int) := by decide +kernel
theorem jF_216_53 : j_F 216 53 = some (.getfield 218, 3, 12, 2, .null, .int) := by decide +kernel
theorem jF_216_56 : j_F 216 56 = some (.aload_n 0, 1, 0, 0, .null, .int) := by decide +kernel
theorem jF_216_57 : j_F 216 57 = some (.getfield 221, 3, 12, 3, .null, .int) := by decide +kernel
theorem jF_216_60 : j_F 216 60 = some (.if_icmp .ge 15, 3, 75, 0, .null, .int) := by decide +kernel
theorem jF_216_63 : j_F 216 63 = some (.aload_n 0, 1, 0, 0, .null, .int) := by decide +kernel
theorem jF_216_64 : j_F 216 64 = some (.getfield 7, 3, 12, 0, .null, (.array .int)) := by decide +kernel
theorem jF_216_67 : j_F 216 67 = some (.aload_n 0, 1, 0, 0, .null, .int) := by decide +kernel
theorem jF_216_68 : j_F 216 68 = some (.getfield 218, 3, 12, 2, .null, .int) := by decide +kernel
theorem jF_216_71 : j_F 216 71 = some (.iaload, 1, 0, 0, .null, .int) := by decide +kernel
theorem jF_216_72 : j_F 216 72 = some (.goto 4, 3, 76, 0, .null, .int) := by decide +kernel
theorem jF_216_75 : j_F 216 75 = some (.iconst (-1), 1, 0, 0, .null, .int) := by decide +kernel
theorem jF_216_76 : j_F 216 76 = some (.ireturn, 1, 0, 0, .null, .int) := by decide +kernel

