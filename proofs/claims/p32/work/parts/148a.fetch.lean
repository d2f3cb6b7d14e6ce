/-! CODE. -/
theorem jF_215_0 : j_F 215 0 = some (.aload_n 0, 1, 0, 0, .null, .int) := by decide +kernel
theorem jF_215_1 : j_F 215 1 = some (.aload_n 0, 1, 0, 0, .null, .int) := by decide +kernel
theorem jF_215_2 : j_F 215 2 = some (.getfield 209, 3, 12, 1, .null, .int) := by decide +kernel
theorem jF_215_5 : j_F 215 5 = some (.putfield 221, 3, 12, 3, .null, .int) := by decide +kernel
theorem jF_215_8 : j_F 215 8 = some (.aload_n 0, 1, 0, 0, .null, .int) := by decide +kernel
theorem jF_215_9 : j_F 215 9 = some (.iconst 0, 1, 0, 0, .null, .int) := by decide +kernel
theorem jF_215_10 : j_F 215 10 = some (.putfield 209, 3, 12, 1, .null, .int) := by decide +kernel
theorem jF_215_13 : j_F 215 13 = some (.aload_n 0, 1, 0, 0, .null, .int) := by decide +kernel
theorem jF_215_14 : j_F 215 14 = some (.iconst 0, 1, 0, 0, .null, .int) := by decide +kernel
theorem jF_215_15 : j_F 215 15 = some (.putfield 218, 3, 12, 2, .null, .int) := by decide +kernel
theorem jF_215_18 : j_F 215 18 = some (.aload_n 0, 1, 0, 0, .null, .int) := by decide +kernel
theorem jF_215_19 : j_F 215 19 = some (.iconst (-1), 1, 0, 0, .null, .int) := by decide +kernel
theorem jF_215_20 : j_F 215 20 = some (.putfield 232, 3, 12, 4, .null, .int) := by decide +kernel
theorem jF_215_23 : j_F 215 23 = some (.aload_n 0, 1, 0, 0, .null, .int) := by decide +kernel
theorem jF_215_24 : j_F 215 24 = some (.iconst 0, 1, 0, 0, .null, .int) := by decide +kernel
theorem jF_215_25 : j_F 215 25 = some (.putfield 212, 3, 12, 5, .null, .int) := by decide +kernel
theorem jF_215_28 : j_F 215 28 = some (.aload_n 0, 1, 0, 0, .null, .int) := by decide +kernel
theorem jF_215_29 : j_F 215 29 = some (.iconst (-1), 1, 0, 0, .null, .int) := by decide +kernel
theorem jF_215_30 : j_F 215 30 = some (.putfield 215, 3, 12, 6, .null, .int) := by decide +kernel
theorem jF_215_33 : j_F 215 33 = some (.return_, 1, 0, 0, .null, .int) := by decide +kernel
theorem jF_240_0 : j_F 240 0 = some (.aload_n 0, 1, 0, 0, .null, .int) := by decide +kernel
theorem jF_240_1 : j_F 240 1 = some (.aload_n 0, 1, 0, 0, .null, .int) := by decide +kernel
theorem jF_240_2 : j_F 240 2 = some (.getfield 212, 3, 12, 5, .null, .int) := by decide +kernel
theorem jF_240_5 : j_F 240 5 = some (.putfield 325, 3, 12, 7, .null, .int) := by decide +kernel
theorem jF_240_8 : j_F 240 8 = some (.aload_n 0, 1, 0, 0, .null, .int) := by decide +kernel
theorem jF_240_9 : j_F 240 9 = some (.aload_n 0, 1, 0, 0, .null, .int) := by decide +kernel
theorem jF_240_10 : j_F 240 10 = some (.getfield 215, 3, 12, 6, .null, .int) := by decide +kernel
theorem jF_240_13 : j_F 240 13 = some (.putfield 13, 3, 12, 8, .null, .int) := by decide +kernel
theorem jF_240_16 : j_F 240 16 = some (.aload_n 0, 1, 0, 0, .null, .int) := by decide +kernel
theorem jF_240_17 : j_F 240 17 = some (.getfield 212, 3, 12, 5, .null, .int) := by decide +kernel
theorem jF_240_20 : j_F 240 20 = some (.ifCond .eq 13, 3, 33, 0, .null, .int) := by decide +kernel
theorem jF_240_23 : j_F 240 23 = some (.aload_n 0, 1, 0, 0, .null, .int) := by decide +kernel
theorem jF_240_24 : j_F 240 24 = some (.getfield 17, 3, 12, 9, .null, (.array .int)) := by decide +kernel
theorem jF_240_27 : j_F 240 27 = some (.iconst 1, 1, 0, 0, .null, .int) := by decide +kernel
theorem jF_240_28 : j_F 240 28 = some (.dup2, 1, 0, 0, .null, .int) := by decide +kernel
theorem jF_240_29 : j_F 240 29 = some (.iaload, 1, 0, 0, .null, .int) := by decide +kernel
theorem jF_240_30 : j_F 240 30 = some (.iconst 1, 1, 0, 0, .null, .int) := by decide +kernel
theorem jF_240_31 : j_F 240 31 = some (.iadd, 1, 0, 0, .null, .int) := by decide +kernel
theorem jF_240_32 : j_F 240 32 = some (.iastore, 1, 0, 0, .null, .int) := by decide +kernel
theorem jF_240_33 : j_F 240 33 = some (.aload_n 0, 1, 0, 0, .null, .int) := by decide +kernel
theorem jF_240_34 : j_F 240 34 = some (.getfield 212, 3, 12, 5, .null, .int) := by decide +kernel
theorem jF_240_37 : j_F 240 37 = some (.ifCond .ne 7, 3, 44, 0, .null, .int) := by decide +kernel
theorem jF_240_40 : j_F 240 40 = some (.iconst 1, 1, 0, 0, .null, .int) := by decide +kernel
theorem jF_240_41 : j_F 240 41 = some (.goto 4, 3, 45, 0, .null, .int) := by decide +kernel
theorem jF_240_44 : j_F 240 44 = some (.iconst 0, 1, 0, 0, .null, .int) := by decide +kernel
theorem jF_240_45 : j_F 240 45 = some (.ireturn, 1, 0, 0, .null, .boolean) := by decide +kernel
theorem jF_251_0 : j_F 251 0 = some (.aload_n 0, 1, 0, 0, .null, .int) := by decide +kernel
theorem jF_251_1 : j_F 251 1 = some (.invokevirtual 328, 3, 215, 1, .null, .int) := by decide +kernel
theorem jF_251_4 : j_F 251 4 = some (.aload_n 0, 1, 0, 0, .null, .int) := by decide +kernel
theorem jF_251_5 : j_F 251 5 = some (.iconst 0, 1, 0, 0, .null, .int) := by decide +kernel
theorem jF_251_6 : j_F 251 6 = some (.putfield 368, 3, 12, 44, .null, .int) := by decide +kernel
theorem jF_251_9 : j_F 251 9 = some (.aload_n 0, 1, 0, 0, .null, .int) := by decide +kernel
theorem jF_251_10 : j_F 251 10 = some (.iconst 0, 1, 0, 0, .null, .int) := by decide +kernel
theorem jF_251_11 : j_F 251 11 = some (.putfield 371, 3, 12, 45, .null, .int) := by decide +kernel
theorem jF_251_14 : j_F 251 14 = some (.aload_n 0, 1, 0, 0, .null, .int) := by decide +kernel
theorem jF_251_15 : j_F 251 15 = some (.invokevirtual 374, 3, 252, 1, .null, .int) := by decide +kernel
theorem jF_251_18 : j_F 251 18 = some (.ifCond .eq 18, 3, 36, 0, .null, .int) := by decide +kernel
theorem jF_251_21 : j_F 251 21 = some (.aload_n 0, 1, 0, 0, .null, .int) := by decide +kernel
theorem jF_251_22 : j_F 251 22 = some (.invokevirtual 224, 3, 216, 1, .null, .int) := by decide +kernel
theorem jF_251_25 : j_F 251 25 = some (.iconst (-1), 1, 0, 0, .null, .int) := by decide +kernel
theorem jF_251_26 : j_F 251 26 = some (.if_icmp .eq 10, 3, 36, 0, .null, .int) := by decide +kernel
theorem jF_251_29 : j_F 251 29 = some (.aload_n 0, 1, 0, 0, .null, .int) := by decide +kernel
theorem jF_251_30 : j_F 251 30 = some (.invokevirtual 386, 3, 253, 1, .null, .int) := by decide +kernel
theorem jF_251_33 : j_F 251 33 = some (.goto (-19), 3, 14, 0, .null, .int) := by decide +kernel
theorem jF_251_36 : j_F 251 36 = some (.aload_n 0, 1, 0, 0, .null, .int) := by decide +kernel
theorem jF_251_37 : j_F 251 37 = some (.invokevirtual 334, 3, 240, 1, .null, .int) := by decide +kernel
theorem jF_251_40 : j_F 251 40 = some (.ifCond .ne 5, 3, 45, 0, .null, .int) := by decide +kernel
theorem jF_251_43 : j_F 251 43 = some (.iconst (-1), 1, 0, 0, .null, .int) := by decide +kernel
theorem jF_251_44 : j_F 251 44 = some (.ireturn, 1, 0, 0, .null, .int) := by decide +kernel
theorem jF_251_45 : j_F 251 45 = some (.aload_n 0, 1, 0, 0, .null, .int) := by decide +kernel
theorem jF_251_46 : j_F 251 46 = some (.invokevirtual 389, 3, 257, 1, .null, .int) := by decide +kernel
theorem jF_251_49 : j_F 251 49 = some (.iload_n 1, 1, 0, 0, .null, .int) := by decide +kernel
theorem jF_251_50 : j_F 251 50 = some (.ifCond .ne 23, 3, 73, 0, .null, .int) := by decide +kernel
theorem jF_251_53 : j_F 251 53 = some (.aload_n 0, 1, 0, 0, .null, .int) := by decide +kernel
theorem jF_251_54 : j_F 251 54 = some (.invokevirtual 392, 3, 258, 1, .null, .int) := by decide +kernel
theorem jF_251_57 : j_F 251 57 = some (.ifCond .ne 16, 3, 73, 0, .null, .int) := by decide +kernel
theorem jF_251_60 : j_F 251 60 = some (.aload_n 0, 1, 0, 0, .null, .int) := by decide +kernel
theorem jF_251_61 : j_F 251 61 = some (.getfield 17, 3, 12, 9, .null, (.array .int)) := by decide +kernel
theorem jF_251_64 : j_F 251 64 = some (.iconst 1, 1, 0, 0, .null, .int) := by decide +kernel
theorem jF_251_65 : j_F 251 65 = some (.dup2, 1, 0, 0, .null, .int) := by decide +kernel
theorem jF_251_66 : j_F 251 66 = some (.iaload, 1, 0, 0, .null, .int) := by decide +kernel
theorem jF_251_67 : j_F 251 67 = some (.iconst 1, 1, 0, 0, .null, .int) := by decide +kernel
theorem jF_251_68 : j_F 251 68 = some (.iadd, 1, 0, 0, .null, .int) := by decide +kernel
theorem jF_251_69 : j_F 251 69 = some (.iastore, 1, 0, 0, .null, .int) := by decide +kernel
theorem jF_251_70 : j_F 251 70 = some (.bipush (-2), 2, 0, 0, .null, .int) := by decide +kernel
theorem jF_251_72 : j_F 251 72 = some (.ireturn, 1, 0, 0, .null, .int) := by decide +kernel
theorem jF_251_73 : j_F 251 73 = some (.iload_n 1, 1, 0, 0, .null, .int) := by decide +kernel
theorem jF_251_74 : j_F 251 74 = some (.ifCond .ne 7, 3, 81, 0, .null, .int) := by decide +kernel
theorem jF_251_77 : j_F 251 77 = some (.aload_n 0, 1, 0, 0, .null, .int) := by decide +kernel
theorem jF_251_78 : j_F 251 78 = some (.invokevirtual 395, 3, 262, 1, .null, .int) := by decide +kernel
theorem jF_251_81 : j_F 251 81 = some (.aload_n 0, 1, 0, 0, .null, .int) := by decide +kernel
theorem jF_251_82 : j_F 251 82 = some (.iload_n 1, 1, 0, 0, .null, .int) := by decide +kernel
theorem jF_251_83 : j_F 251 83 = some (.ifCond .eq 7, 3, 90, 0, .null, .int) := by decide +kernel
theorem jF_251_86 : j_F 251 86 = some (.iconst 1, 1, 0, 0, .null, .int) := by decide +kernel
theorem jF_251_87 : j_F 251 87 = some (.goto 4, 3, 91, 0, .null, .int) := by decide +kernel
theorem jF_251_90 : j_F 251 90 = some (.iconst 0, 1, 0, 0, .null, .int) := by decide +kernel
theorem jF_251_91 : j_F 251 91 = some (.invokevirtual 398, 3, 263, 2, .null, .int) := by decide +kernel
theorem jF_251_94 : j_F 251 94 = some (.aload_n 0, 1, 0, 0, .null, .int) := by decide +kernel
theorem jF_251_95 : j_F 251 95 = some (.getfield 371, 3, 12, 45, .null, .int) := by decide +kernel
theorem jF_251_98 : j_F 251 98 = some (.ireturn, 1, 0, 0, .null, .int) := by decide +kernel
