/-! CODE. -/
theorem jF_354_0 : j_F 354 0 = some (.aload_n 0, 1, 0, 0, .null, .int) := by decide +kernel
theorem jF_354_1 : j_F 354 1 = some (.iconst 0, 1, 0, 0, .null, .int) := by decide +kernel
theorem jF_354_2 : j_F 354 2 = some (.putfield 694, 3, 12, 97, .null, .int) := by decide +kernel
theorem jF_354_5 : j_F 354 5 = some (.iconst 0, 1, 0, 0, .null, .int) := by decide +kernel
theorem jF_354_6 : j_F 354 6 = some (.istore_n 1, 1, 0, 0, .null, .int) := by decide +kernel
theorem jF_354_7 : j_F 354 7 = some (.iload_n 1, 1, 0, 0, .null, .int) := by decide +kernel
theorem jF_354_8 : j_F 354 8 = some (.iconst 2, 1, 0, 0, .null, .int) := by decide +kernel
theorem jF_354_9 : j_F 354 9 = some (.if_icmp .ge 82, 3, 91, 0, .null, .int) := by decide +kernel
theorem jF_354_12 : j_F 354 12 = some (.aload_n 0, 1, 0, 0, .null, .int) := by decide +kernel
theorem jF_354_13 : j_F 354 13 = some (.getfield 206, 3, 12, 96, .null, (.array .int)) := by decide +kernel
theorem jF_354_16 : j_F 354 16 = some (.aload_n 0, 1, 0, 0, .null, .int) := by decide +kernel
theorem jF_354_17 : j_F 354 17 = some (.getfield 694, 3, 12, 97, .null, .int) := by decide +kernel
theorem jF_354_20 : j_F 354 20 = some (.aload_n 0, 1, 0, 0, .null, .int) := by decide +kernel
theorem jF_354_21 : j_F 354 21 = some (.getfield 109, 3, 12, 47, .null, (.array .int)) := by decide +kernel
theorem jF_354_24 : j_F 354 24 = some (.iload_n 1, 1, 0, 0, .null, .int) := by decide +kernel
theorem jF_354_25 : j_F 354 25 = some (.iaload, 1, 0, 0, .null, .int) := by decide +kernel
theorem jF_354_26 : j_F 354 26 = some (.iastore, 1, 0, 0, .null, .int) := by decide +kernel
theorem jF_354_27 : j_F 354 27 = some (.aload_n 0, 1, 0, 0, .null, .int) := by decide +kernel
theorem jF_354_28 : j_F 354 28 = some (.dup, 1, 0, 0, .null, .int) := by decide +kernel
theorem jF_354_29 : j_F 354 29 = some (.getfield 694, 3, 12, 97, .null, .int) := by decide +kernel
theorem jF_354_32 : j_F 354 32 = some (.iconst 1, 1, 0, 0, .null, .int) := by decide +kernel
theorem jF_354_33 : j_F 354 33 = some (.iadd, 1, 0, 0, .null, .int) := by decide +kernel
theorem jF_354_34 : j_F 354 34 = some (.putfield 694, 3, 12, 97, .null, .int) := by decide +kernel
theorem jF_354_37 : j_F 354 37 = some (.iconst 0, 1, 0, 0, .null, .int) := by decide +kernel
theorem jF_354_38 : j_F 354 38 = some (.istore_n 2, 1, 0, 0, .null, .int) := by decide +kernel
theorem jF_354_39 : j_F 354 39 = some (.iload_n 2, 1, 0, 0, .null, .int) := by decide +kernel
theorem jF_354_40 : j_F 354 40 = some (.aload_n 0, 1, 0, 0, .null, .int) := by decide +kernel
theorem jF_354_41 : j_F 354 41 = some (.getfield 109, 3, 12, 47, .null, (.array .int)) := by decide +kernel
theorem jF_354_44 : j_F 354 44 = some (.iload_n 1, 1, 0, 0, .null, .int) := by decide +kernel
theorem jF_354_45 : j_F 354 45 = some (.iaload, 1, 0, 0, .null, .int) := by decide +kernel
theorem jF_354_46 : j_F 354 46 = some (.if_icmp .ge 39, 3, 85, 0, .null, .int) := by decide +kernel
theorem jF_354_49 : j_F 354 49 = some (.aload_n 0, 1, 0, 0, .null, .int) := by decide +kernel
theorem jF_354_50 : j_F 354 50 = some (.getfield 206, 3, 12, 96, .null, (.array .int)) := by decide +kernel
theorem jF_354_53 : j_F 354 53 = some (.aload_n 0, 1, 0, 0, .null, .int) := by decide +kernel
theorem jF_354_54 : j_F 354 54 = some (.getfield 694, 3, 12, 97, .null, .int) := by decide +kernel
theorem jF_354_57 : j_F 354 57 = some (.aload_n 0, 1, 0, 0, .null, .int) := by decide +kernel
theorem jF_354_58 : j_F 354 58 = some (.getfield 106, 3, 12, 46, .null, (.array .int)) := by decide +kernel
theorem jF_354_61 : j_F 354 61 = some (.bipush 64, 2, 0, 0, .null, .int) := by decide +kernel
theorem jF_354_63 : j_F 354 63 = some (.iload_n 1, 1, 0, 0, .null, .int) := by decide +kernel
theorem jF_354_64 : j_F 354 64 = some (.imul, 1, 0, 0, .null, .int) := by decide +kernel
theorem jF_354_65 : j_F 354 65 = some (.iload_n 2, 1, 0, 0, .null, .int) := by decide +kernel
theorem jF_354_66 : j_F 354 66 = some (.iadd, 1, 0, 0, .null, .int) := by decide +kernel
theorem jF_354_67 : j_F 354 67 = some (.iaload, 1, 0, 0, .null, .int) := by decide +kernel
theorem jF_354_68 : j_F 354 68 = some (.iastore, 1, 0, 0, .null, .int) := by decide +kernel
theorem jF_354_69 : j_F 354 69 = some (.aload_n 0, 1, 0, 0, .null, .int) := by decide +kernel
theorem jF_354_70 : j_F 354 70 = some (.dup, 1, 0, 0, .null, .int) := by decide +kernel
theorem jF_354_71 : j_F 354 71 = some (.getfield 694, 3, 12, 97, .null, .int) := by decide +kernel
theorem jF_354_74 : j_F 354 74 = some (.iconst 1, 1, 0, 0, .null, .int) := by decide +kernel
theorem jF_354_75 : j_F 354 75 = some (.iadd, 1, 0, 0, .null, .int) := by decide +kernel
theorem jF_354_76 : j_F 354 76 = some (.putfield 694, 3, 12, 97, .null, .int) := by decide +kernel
theorem jF_354_79 : j_F 354 79 = some (.iinc 2 1, 3, 0, 0, .null, .int) := by decide +kernel
theorem jF_354_82 : j_F 354 82 = some (.goto (-43), 3, 39, 0, .null, .int) := by decide +kernel
theorem jF_354_85 : j_F 354 85 = some (.iinc 1 1, 3, 0, 0, .null, .int) := by decide +kernel
theorem jF_354_88 : j_F 354 88 = some (.goto (-81), 3, 7, 0, .null, .int) := by decide +kernel
theorem jF_354_91 : j_F 354 91 = some (.aload_n 0, 1, 0, 0, .null, .int) := by decide +kernel
theorem jF_354_92 : j_F 354 92 = some (.getfield 206, 3, 12, 96, .null, (.array .int)) := by decide +kernel
theorem jF_354_95 : j_F 354 95 = some (.aload_n 0, 1, 0, 0, .null, .int) := by decide +kernel
theorem jF_354_96 : j_F 354 96 = some (.getfield 694, 3, 12, 97, .null, .int) := by decide +kernel
theorem jF_354_99 : j_F 354 99 = some (.aload_n 0, 1, 0, 0, .null, .int) := by decide +kernel
theorem jF_354_100 : j_F 354 100 = some (.getfield 206, 3, 12, 96, .null, (.array .int)) := by decide +kernel
theorem jF_354_103 : j_F 354 103 = some (.aload_n 0, 1, 0, 0, .null, .int) := by decide +kernel
theorem jF_354_104 : j_F 354 104 = some (.getfield 694, 3, 12, 97, .null, .int) := by decide +kernel
theorem jF_354_107 : j_F 354 107 = some (.invokestatic 697, 3, 355, 2, .null, .int) := by decide +kernel
theorem jF_354_110 : j_F 354 110 = some (.iastore, 1, 0, 0, .null, .int) := by decide +kernel
theorem jF_354_111 : j_F 354 111 = some (.aload_n 0, 1, 0, 0, .null, .int) := by decide +kernel
theorem jF_354_112 : j_F 354 112 = some (.dup, 1, 0, 0, .null, .int) := by decide +kernel
theorem jF_354_113 : j_F 354 113 = some (.getfield 694, 3, 12, 97, .null, .int) := by decide +kernel
theorem jF_354_116 : j_F 354 116 = some (.iconst 1, 1, 0, 0, .null, .int) := by decide +kernel
theorem jF_354_117 : j_F 354 117 = some (.iadd, 1, 0, 0, .null, .int) := by decide +kernel
theorem jF_354_118 : j_F 354 118 = some (.putfield 694, 3, 12, 97, .null, .int) := by decide +kernel
theorem jF_354_121 : j_F 354 121 = some (.aload_n 0, 1, 0, 0, .null, .int) := by decide +kernel
theorem jF_354_122 : j_F 354 122 = some (.getfield 694, 3, 12, 97, .null, .int) := by decide +kernel
theorem jF_354_125 : j_F 354 125 = some (.ireturn, 1, 0, 0, .null, .int) := by decide +kernel
theorem jF_355_0 : j_F 355 0 = some (.bipush 101, 2, 0, 0, .null, .int) := by decide +kernel
theorem jF_355_2 : j_F 355 2 = some (.istore_n 2, 1, 0, 0, .null, .int) := by decide +kernel
theorem jF_355_3 : j_F 355 3 = some (.iconst 0, 1, 0, 0, .null, .int) := by decide +kernel
theorem jF_355_4 : j_F 355 4 = some (.istore_n 3, 1, 0, 0, .null, .int) := by decide +kernel
theorem jF_355_5 : j_F 355 5 = some (.iload_n 3, 1, 0, 0, .null, .int) := by decide +kernel
theorem jF_355_6 : j_F 355 6 = some (.iload_n 1, 1, 0, 0, .null, .int) := by decide +kernel
theorem jF_355_7 : j_F 355 7 = some (.if_icmp .ge 21, 3, 28, 0, .null, .int) := by decide +kernel
theorem jF_355_10 : j_F 355 10 = some (.iconst 5, 1, 0, 0, .null, .int) := by decide +kernel
theorem jF_355_11 : j_F 355 11 = some (.iload_n 2, 1, 0, 0, .null, .int) := by decide +kernel
theorem jF_355_12 : j_F 355 12 = some (.imul, 1, 0, 0, .null, .int) := by decide +kernel
theorem jF_355_13 : j_F 355 13 = some (.aload_n 0, 1, 0, 0, .null, .int) := by decide +kernel
theorem jF_355_14 : j_F 355 14 = some (.iload_n 3, 1, 0, 0, .null, .int) := by decide +kernel
theorem jF_355_15 : j_F 355 15 = some (.iaload, 1, 0, 0, .null, .int) := by decide +kernel
theorem jF_355_16 : j_F 355 16 = some (.iadd, 1, 0, 0, .null, .int) := by decide +kernel
theorem jF_355_17 : j_F 355 17 = some (.sipush 239, 3, 0, 0, .null, .int) := by decide +kernel
theorem jF_355_20 : j_F 355 20 = some (.irem, 1, 0, 0, .null, .int) := by decide +kernel
theorem jF_355_21 : j_F 355 21 = some (.istore_n 2, 1, 0, 0, .null, .int) := by decide +kernel
theorem jF_355_22 : j_F 355 22 = some (.iinc 3 1, 3, 0, 0, .null, .int) := by decide +kernel
theorem jF_355_25 : j_F 355 25 = some (.goto (-20), 3, 5, 0, .null, .int) := by decide +kernel
theorem jF_355_28 : j_F 355 28 = some (.iload_n 2, 1, 0, 0, .null, .int) := by decide +kernel
theorem jF_355_29 : j_F 355 29 = some (.ireturn, 1, 0, 0, .null, .int) := by decide +kernel
