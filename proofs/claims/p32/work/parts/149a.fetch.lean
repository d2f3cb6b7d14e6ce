/-! CODE. -/
theorem jF_213_0 : j_F 213 0 = some (.iload_n 1, 1, 0, 0, .null, .int) := by decide +kernel
theorem jF_213_1 : j_F 213 1 = some (.ifCond .lt 11, 3, 12, 0, .null, .int) := by decide +kernel
theorem jF_213_4 : j_F 213 4 = some (.iload_n 1, 1, 0, 0, .null, .int) := by decide +kernel
theorem jF_213_5 : j_F 213 5 = some (.aload_n 0, 1, 0, 0, .null, .int) := by decide +kernel
theorem jF_213_6 : j_F 213 6 = some (.getfield 209, 3, 12, 1, .null, .int) := by decide +kernel
theorem jF_213_9 : j_F 213 9 = some (.if_icmp .le 15, 3, 24, 0, .null, .int) := by decide +kernel
theorem jF_213_12 : j_F 213 12 = some (.aload_n 0, 1, 0, 0, .null, .int) := by decide +kernel
theorem jF_213_13 : j_F 213 13 = some (.getfield 17, 3, 12, 9, .null, (.array .int)) := by decide +kernel
theorem jF_213_16 : j_F 213 16 = some (.iconst 0, 1, 0, 0, .null, .int) := by decide +kernel
theorem jF_213_17 : j_F 213 17 = some (.dup2, 1, 0, 0, .null, .int) := by decide +kernel
theorem jF_213_18 : j_F 213 18 = some (.iaload, 1, 0, 0, .null, .int) := by decide +kernel
theorem jF_213_19 : j_F 213 19 = some (.iconst 1, 1, 0, 0, .null, .int) := by decide +kernel
theorem jF_213_20 : j_F 213 20 = some (.iadd, 1, 0, 0, .null, .int) := by decide +kernel
theorem jF_213_21 : j_F 213 21 = some (.iastore, 1, 0, 0, .null, .int) := by decide +kernel
theorem jF_213_22 : j_F 213 22 = some (.iconst 0, 1, 0, 0, .null, .int) := by decide +kernel
theorem jF_213_23 : j_F 213 23 = some (.ireturn, 1, 0, 0, .null, .boolean) := by decide +kernel
theorem jF_213_24 : j_F 213 24 = some (.aload_n 0, 1, 0, 0, .null, .int) := by decide +kernel
theorem jF_213_25 : j_F 213 25 = some (.iload_n 1, 1, 0, 0, .null, .int) := by decide +kernel
theorem jF_213_26 : j_F 213 26 = some (.putfield 209, 3, 12, 1, .null, .int) := by decide +kernel
theorem jF_213_29 : j_F 213 29 = some (.iconst 1, 1, 0, 0, .null, .int) := by decide +kernel
theorem jF_213_30 : j_F 213 30 = some (.ireturn, 1, 0, 0, .null, .boolean) := by decide +kernel
theorem jF_264_0 : j_F 264 0 = some (.iload_n 1, 1, 0, 0, .null, .int) := by decide +kernel
theorem jF_264_1 : j_F 264 1 = some (.ifCond .ne 10, 3, 11, 0, .null, .int) := by decide +kernel
theorem jF_264_4 : j_F 264 4 = some (.aload_n 0, 1, 0, 0, .null, .int) := by decide +kernel
theorem jF_264_5 : j_F 264 5 = some (.getfield 325, 3, 12, 7, .null, .int) := by decide +kernel
theorem jF_264_8 : j_F 264 8 = some (.goto 16, 3, 24, 0, .null, .int) := by decide +kernel
theorem jF_264_11 : j_F 264 11 = some (.iload_n 1, 1, 0, 0, .null, .int) := by decide +kernel
theorem jF_264_12 : j_F 264 12 = some (.iconst 1, 1, 0, 0, .null, .int) := by decide +kernel
theorem jF_264_13 : j_F 264 13 = some (.if_icmp .ne 10, 3, 23, 0, .null, .int) := by decide +kernel
theorem jF_264_16 : j_F 264 16 = some (.aload_n 0, 1, 0, 0, .null, .int) := by decide +kernel
theorem jF_264_17 : j_F 264 17 = some (.getfield 13, 3, 12, 8, .null, .int) := by decide +kernel
theorem jF_264_20 : j_F 264 20 = some (.goto 4, 3, 24, 0, .null, .int) := by decide +kernel
theorem jF_264_23 : j_F 264 23 = some (.iconst (-1), 1, 0, 0, .null, .int) := by decide +kernel
theorem jF_264_24 : j_F 264 24 = some (.ireturn, 1, 0, 0, .null, .int) := by decide +kernel
theorem jF_268_0 : j_F 268 0 = some (.iload_n 1, 1, 0, 0, .null, .int) := by decide +kernel
theorem jF_268_1 : j_F 268 1 = some (.invokestatic 432, 3, 269, 1, .null, .int) := by decide +kernel
theorem jF_268_4 : j_F 268 4 = some (.istore_n 3, 1, 0, 0, .null, .int) := by decide +kernel
theorem jF_268_5 : j_F 268 5 = some (.iload_n 2, 1, 0, 0, .null, .int) := by decide +kernel
theorem jF_268_6 : j_F 268 6 = some (.iconst (-1), 1, 0, 0, .null, .int) := by decide +kernel
theorem jF_268_7 : j_F 268 7 = some (.if_icmp .ne 12, 3, 19, 0, .null, .int) := by decide +kernel
theorem jF_268_10 : j_F 268 10 = some (.aload_n 0, 1, 0, 0, .null, .int) := by decide +kernel
theorem jF_268_11 : j_F 268 11 = some (.getfield 109, 3, 12, 47, .null, (.array .int)) := by decide +kernel
theorem jF_268_14 : j_F 268 14 = some (.iload_n 3, 1, 0, 0, .null, .int) := by decide +kernel
theorem jF_268_15 : j_F 268 15 = some (.iaload, 1, 0, 0, .null, .int) := by decide +kernel
theorem jF_268_16 : j_F 268 16 = some (.goto 36, 3, 52, 0, .null, .int) := by decide +kernel
theorem jF_268_19 : j_F 268 19 = some (.iload_n 2, 1, 0, 0, .null, .int) := by decide +kernel
theorem jF_268_20 : j_F 268 20 = some (.i2l, 1, 0, 0, .null, .int) := by decide +kernel
theorem jF_268_21 : j_F 268 21 = some (.lconst 0, 1, 0, 0, .null, .int) := by decide +kernel
theorem jF_268_22 : j_F 268 22 = some (.aload_n 0, 1, 0, 0, .null, .int) := by decide +kernel
theorem jF_268_23 : j_F 268 23 = some (.getfield 109, 3, 12, 47, .null, (.array .int)) := by decide +kernel
theorem jF_268_26 : j_F 268 26 = some (.iload_n 3, 1, 0, 0, .null, .int) := by decide +kernel
theorem jF_268_27 : j_F 268 27 = some (.iaload, 1, 0, 0, .null, .int) := by decide +kernel
theorem jF_268_28 : j_F 268 28 = some (.iconst 1, 1, 0, 0, .null, .int) := by decide +kernel
theorem jF_268_29 : j_F 268 29 = some (.isub, 1, 0, 0, .null, .int) := by decide +kernel
theorem jF_268_30 : j_F 268 30 = some (.i2l, 1, 0, 0, .null, .int) := by decide +kernel
theorem jF_268_31 : j_F 268 31 = some (.invokestatic 252, 3, 232, 3, .null, .int) := by decide +kernel
theorem jF_268_34 : j_F 268 34 = some (.ifCond .eq 17, 3, 51, 0, .null, .int) := by decide +kernel
theorem jF_268_37 : j_F 268 37 = some (.aload_n 0, 1, 0, 0, .null, .int) := by decide +kernel
theorem jF_268_38 : j_F 268 38 = some (.getfield 106, 3, 12, 46, .null, (.array .int)) := by decide +kernel
theorem jF_268_41 : j_F 268 41 = some (.bipush 64, 2, 0, 0, .null, .int) := by decide +kernel
theorem jF_268_43 : j_F 268 43 = some (.iload_n 3, 1, 0, 0, .null, .int) := by decide +kernel
theorem jF_268_44 : j_F 268 44 = some (.imul, 1, 0, 0, .null, .int) := by decide +kernel
theorem jF_268_45 : j_F 268 45 = some (.iload_n 2, 1, 0, 0, .null, .int) := by decide +kernel
theorem jF_268_46 : j_F 268 46 = some (.iadd, 1, 0, 0, .null, .int) := by decide +kernel
theorem jF_268_47 : j_F 268 47 = some (.iaload, 1, 0, 0, .null, .int) := by decide +kernel
theorem jF_268_48 : j_F 268 48 = some (.goto 4, 3, 52, 0, .null, .int) := by decide +kernel
theorem jF_268_51 : j_F 268 51 = some (.iconst (-1), 1, 0, 0, .null, .int) := by decide +kernel
theorem jF_268_52 : j_F 268 52 = some (.ireturn, 1, 0, 0, .null, .int) := by decide +kernel
theorem jF_269_0 : j_F 269 0 = some (.iload_n 0, 1, 0, 0, .null, .int) := by decide +kernel
theorem jF_269_1 : j_F 269 1 = some (.ifCond .eq 7, 3, 8, 0, .null, .int) := by decide +kernel
theorem jF_269_4 : j_F 269 4 = some (.iconst 1, 1, 0, 0, .null, .int) := by decide +kernel
theorem jF_269_5 : j_F 269 5 = some (.goto 4, 3, 9, 0, .null, .int) := by decide +kernel
theorem jF_269_8 : j_F 269 8 = some (.iconst 0, 1, 0, 0, .null, .int) := by decide +kernel
theorem jF_269_9 : j_F 269 9 = some (.ireturn, 1, 0, 0, .null, .int) := by decide +kernel
theorem jF_294_0 : j_F 294 0 = some (.iload_n 2, 1, 0, 0, .null, .int) := by decide +kernel
theorem jF_294_1 : j_F 294 1 = some (.i2l, 1, 0, 0, .null, .int) := by decide +kernel
theorem jF_294_2 : j_F 294 2 = some (.lconst 0, 1, 0, 0, .null, .int) := by decide +kernel
theorem jF_294_3 : j_F 294 3 = some (.ldc2_w 506, 3, 0, 0, (.long (3)), .int) := by decide +kernel
theorem jF_294_6 : j_F 294 6 = some (.invokestatic 252, 3, 232, 3, .null, .int) := by decide +kernel
theorem jF_294_9 : j_F 294 9 = some (.ifCond .ne 5, 3, 14, 0, .null, .int) := by decide +kernel
theorem jF_294_12 : j_F 294 12 = some (.iconst (-1), 1, 0, 0, .null, .int) := by decide +kernel
theorem jF_294_13 : j_F 294 13 = some (.ireturn, 1, 0, 0, .null, .int) := by decide +kernel
theorem jF_294_14 : j_F 294 14 = some (.aload_n 0, 1, 0, 0, .null, .int) := by decide +kernel
theorem jF_294_15 : j_F 294 15 = some (.aload_n 0, 1, 0, 0, .null, .int) := by decide +kernel
theorem jF_294_16 : j_F 294 16 = some (.iload_n 1, 1, 0, 0, .null, .int) := by decide +kernel
theorem jF_294_17 : j_F 294 17 = some (.invokestatic 432, 3, 269, 1, .null, .int) := by decide +kernel
theorem jF_294_20 : j_F 294 20 = some (.invokevirtual 448, 3, 277, 2, .null, .int) := by decide +kernel
theorem jF_294_23 : j_F 294 23 = some (.invokevirtual 508, 3, 295, 2, .null, .int) := by decide +kernel
theorem jF_294_26 : j_F 294 26 = some (.aload_n 0, 1, 0, 0, .null, .int) := by decide +kernel
theorem jF_294_27 : j_F 294 27 = some (.getfield 494, 3, 12, 59, .null, .int) := by decide +kernel
theorem jF_294_30 : j_F 294 30 = some (.iconst (-1), 1, 0, 0, .null, .int) := by decide +kernel
theorem jF_294_31 : j_F 294 31 = some (.if_icmp .ne 5, 3, 36, 0, .null, .int) := by decide +kernel
theorem jF_294_34 : j_F 294 34 = some (.iconst (-1), 1, 0, 0, .null, .int) := by decide +kernel
theorem jF_294_35 : j_F 294 35 = some (.ireturn, 1, 0, 0, .null, .int) := by decide +kernel
theorem jF_294_36 : j_F 294 36 = some (.iload_n 2, 1, 0, 0, .null, .int) := by decide +kernel
theorem jF_294_37 : j_F 294 37 = some (.tableswitch 63 0 2 #[27, 32, 58], 27, 0, 0, .null, .int) := by decide +kernel
theorem jF_294_64 : j_F 294 64 = some (.aload_n 0, 1, 0, 0, .null, .int) := by decide +kernel
theorem jF_294_65 : j_F 294 65 = some (.getfield 494, 3, 12, 59, .null, .int) := by decide +kernel
theorem jF_294_68 : j_F 294 68 = some (.ireturn, 1, 0, 0, .null, .int) := by decide +kernel
theorem jF_294_69 : j_F 294 69 = some (.aload_n 0, 1, 0, 0, .null, .int) := by decide +kernel
theorem jF_294_70 : j_F 294 70 = some (.getfield 497, 3, 12, 60, .null, .int) := by decide +kernel
theorem jF_294_73 : j_F 294 73 = some (.iconst (-1), 1, 0, 0, .null, .int) := by decide +kernel
theorem jF_294_74 : j_F 294 74 = some (.if_icmp .ne 7, 3, 81, 0, .null, .int) := by decide +kernel
theorem jF_294_77 : j_F 294 77 = some (.iconst 0, 1, 0, 0, .null, .int) := by decide +kernel
theorem jF_294_78 : j_F 294 78 = some (.goto 16, 3, 94, 0, .null, .int) := by decide +kernel
theorem jF_294_81 : j_F 294 81 = some (.aload_n 0, 1, 0, 0, .null, .int) := by decide +kernel
theorem jF_294_82 : j_F 294 82 = some (.getfield 500, 3, 12, 61, .null, .int) := by decide +kernel
theorem jF_294_85 : j_F 294 85 = some (.iconst (-1), 1, 0, 0, .null, .int) := by decide +kernel
theorem jF_294_86 : j_F 294 86 = some (.if_icmp .ne 7, 3, 93, 0, .null, .int) := by decide +kernel
theorem jF_294_89 : j_F 294 89 = some (.iconst 1, 1, 0, 0, .null, .int) := by decide +kernel
theorem jF_294_90 : j_F 294 90 = some (.goto 4, 3, 94, 0, .null, .int) := by decide +kernel
theorem jF_294_93 : j_F 294 93 = some (.iconst 2, 1, 0, 0, .null, .int) := by decide +kernel
theorem jF_294_94 : j_F 294 94 = some (.ireturn, 1, 0, 0, .null, .int) := by decide +kernel
theorem jF_294_95 : j_F 294 95 = some (.aload_n 0, 1, 0, 0, .null, .int) := by decide +kernel
theorem jF_294_96 : j_F 294 96 = some (.getfield 497, 3, 12, 60, .null, .int) := by decide +kernel
theorem jF_294_99 : j_F 294 99 = some (.ireturn, 1, 0, 0, .null, .int) := by decide +kernel
theorem jF_294_100 : j_F 294 100 = some (.aload_n 0, 1, 0, 0, .null, .int) := by decide +kernel
theorem jF_294_101 : j_F 294 101 = some (.getfield 500, 3, 12, 61, .null, .int) := by decide +kernel
theorem jF_294_104 : j_F 294 104 = some (.ireturn, 1, 0, 0, .null, .int) := by decide +kernel
theorem jF_304_0 : j_F 304 0 = some (.aload_n 0, 1, 0, 0, .null, .int) := by decide +kernel
theorem jF_304_1 : j_F 304 1 = some (.iconst 0, 1, 0, 0, .null, .int) := by decide +kernel
theorem jF_304_2 : j_F 304 2 = some (.putfield 521, 3, 12, 63, .null, .int) := by decide +kernel
theorem jF_304_5 : j_F 304 5 = some (.iconst 0, 1, 0, 0, .null, .int) := by decide +kernel
theorem jF_304_6 : j_F 304 6 = some (.istore_n 1, 1, 0, 0, .null, .int) := by decide +kernel
theorem jF_304_7 : j_F 304 7 = some (.iload_n 1, 1, 0, 0, .null, .int) := by decide +kernel
theorem jF_304_8 : j_F 304 8 = some (.iconst 3, 1, 0, 0, .null, .int) := by decide +kernel
theorem jF_304_9 : j_F 304 9 = some (.if_icmp .ge 96, 3, 105, 0, .null, .int) := by decide +kernel
theorem jF_304_12 : j_F 304 12 = some (.iconst 0, 1, 0, 0, .null, .int) := by decide +kernel
theorem jF_304_13 : j_F 304 13 = some (.istore_n 2, 1, 0, 0, .null, .int) := by decide +kernel
theorem jF_304_14 : j_F 304 14 = some (.iload_n 2, 1, 0, 0, .null, .int) := by decide +kernel
theorem jF_304_15 : j_F 304 15 = some (.aload_n 0, 1, 0, 0, .null, .int) := by decide +kernel
theorem jF_304_16 : j_F 304 16 = some (.getfield 109, 3, 12, 47, .null, (.array .int)) := by decide +kernel
theorem jF_304_19 : j_F 304 19 = some (.iconst 1, 1, 0, 0, .null, .int) := by decide +kernel
theorem jF_304_20 : j_F 304 20 = some (.iaload, 1, 0, 0, .null, .int) := by decide +kernel
theorem jF_304_21 : j_F 304 21 = some (.if_icmp .gt 78, 3, 99, 0, .null, .int) := by decide +kernel
theorem jF_304_24 : j_F 304 24 = some (.iconst 0, 1, 0, 0, .null, .int) := by decide +kernel
theorem jF_304_25 : j_F 304 25 = some (.istore_n 3, 1, 0, 0, .null, .int) := by decide +kernel
theorem jF_304_26 : j_F 304 26 = some (.iload_n 3, 1, 0, 0, .null, .int) := by decide +kernel
theorem jF_304_27 : j_F 304 27 = some (.iload_n 1, 1, 0, 0, .null, .int) := by decide +kernel
theorem jF_304_28 : j_F 304 28 = some (.iconst 1, 1, 0, 0, .null, .int) := by decide +kernel
theorem jF_304_29 : j_F 304 29 = some (.if_icmp .ne 7, 3, 36, 0, .null, .int) := by decide +kernel
theorem jF_304_32 : j_F 304 32 = some (.iconst 1, 1, 0, 0, .null, .int) := by decide +kernel
theorem jF_304_33 : j_F 304 33 = some (.goto 5, 3, 38, 0, .null, .int) := by decide +kernel
theorem jF_304_36 : j_F 304 36 = some (.bipush 23, 2, 0, 0, .null, .int) := by decide +kernel
theorem jF_304_38 : j_F 304 38 = some (.if_icmp .ge 55, 3, 93, 0, .null, .int) := by decide +kernel
theorem jF_304_41 : j_F 304 41 = some (.aload_n 0, 1, 0, 0, .null, .int) := by decide +kernel
theorem jF_304_42 : j_F 304 42 = some (.iconst 1, 1, 0, 0, .null, .int) := by decide +kernel
theorem jF_304_43 : j_F 304 43 = some (.iload_n 1, 1, 0, 0, .null, .int) := by decide +kernel
theorem jF_304_44 : j_F 304 44 = some (.iload_n 2, 1, 0, 0, .null, .int) := by decide +kernel
theorem jF_304_45 : j_F 304 45 = some (.iload_n 3, 1, 0, 0, .null, .int) := by decide +kernel
theorem jF_304_46 : j_F 304 46 = some (.invokevirtual 465, 3, 288, 5, .null, .int) := by decide +kernel
theorem jF_304_49 : j_F 304 49 = some (.ifCond .eq 38, 3, 87, 0, .null, .int) := by decide +kernel
theorem jF_304_52 : j_F 304 52 = some (.aload_n 0, 1, 0, 0, .null, .int) := by decide +kernel
theorem jF_304_53 : j_F 304 53 = some (.invokevirtual 469, 3, 290, 1, .null, .int) := by decide +kernel
theorem jF_304_56 : j_F 304 56 = some (.ifCond .ne 6, 3, 62, 0, .null, .int) := by decide +kernel
theorem jF_304_59 : j_F 304 59 = some (.goto 28, 3, 87, 0, .null, .int) := by decide +kernel
theorem jF_304_62 : j_F 304 62 = some (.aload_n 0, 1, 0, 0, .null, .int) := by decide +kernel
theorem jF_304_63 : j_F 304 63 = some (.getfield 130, 3, 12, 62, .null, (.array .int)) := by decide +kernel
theorem jF_304_66 : j_F 304 66 = some (.aload_n 0, 1, 0, 0, .null, .int) := by decide +kernel
theorem jF_304_67 : j_F 304 67 = some (.getfield 521, 3, 12, 63, .null, .int) := by decide +kernel
theorem jF_304_70 : j_F 304 70 = some (.iload_n 1, 1, 0, 0, .null, .int) := by decide +kernel
theorem jF_304_71 : j_F 304 71 = some (.iload_n 2, 1, 0, 0, .null, .int) := by decide +kernel
theorem jF_304_72 : j_F 304 72 = some (.iload_n 3, 1, 0, 0, .null, .int) := by decide +kernel
theorem jF_304_73 : j_F 304 73 = some (.invokestatic 524, 3, 305, 3, .null, .int) := by decide +kernel
theorem jF_304_76 : j_F 304 76 = some (.iastore, 1, 0, 0, .null, .int) := by decide +kernel
theorem jF_304_77 : j_F 304 77 = some (.aload_n 0, 1, 0, 0, .null, .int) := by decide +kernel
theorem jF_304_78 : j_F 304 78 = some (.dup, 1, 0, 0, .null, .int) := by decide +kernel
theorem jF_304_79 : j_F 304 79 = some (.getfield 521, 3, 12, 63, .null, .int) := by decide +kernel
theorem jF_304_82 : j_F 304 82 = some (.iconst 1, 1, 0, 0, .null, .int) := by decide +kernel
theorem jF_304_83 : j_F 304 83 = some (.iadd, 1, 0, 0, .null, .int) := by decide +kernel
theorem jF_304_84 : j_F 304 84 = some (.putfield 521, 3, 12, 63, .null, .int) := by decide +kernel
theorem jF_304_87 : j_F 304 87 = some (.iinc 3 1, 3, 0, 0, .null, .int) := by decide +kernel
theorem jF_304_90 : j_F 304 90 = some (.goto (-64), 3, 26, 0, .null, .int) := by decide +kernel
theorem jF_304_93 : j_F 304 93 = some (.iinc 2 1, 3, 0, 0, .null, .int) := by decide +kernel
theorem jF_304_96 : j_F 304 96 = some (.goto (-82), 3, 14, 0, .null, .int) := by decide +kernel
theorem jF_304_99 : j_F 304 99 = some (.iinc 1 1, 3, 0, 0, .null, .int) := by decide +kernel
theorem jF_304_102 : j_F 304 102 = some (.goto (-95), 3, 7, 0, .null, .int) := by decide +kernel
theorem jF_304_105 : j_F 304 105 = some (.return_, 1, 0, 0, .null, .int) := by decide +kernel
theorem jF_305_0 : j_F 305 0 = some (.iload_n 0, 1, 0, 0, .null, .int) := by decide +kernel
theorem jF_305_1 : j_F 305 1 = some (.bipush 64, 2, 0, 0, .null, .int) := by decide +kernel
theorem jF_305_3 : j_F 305 3 = some (.imul, 1, 0, 0, .null, .int) := by decide +kernel
theorem jF_305_4 : j_F 305 4 = some (.iload_n 1, 1, 0, 0, .null, .int) := by decide +kernel
theorem jF_305_5 : j_F 305 5 = some (.iadd, 1, 0, 0, .null, .int) := by decide +kernel
theorem jF_305_6 : j_F 305 6 = some (.bipush 32, 2, 0, 0, .null, .int) := by decide +kernel
theorem jF_305_8 : j_F 305 8 = some (.imul, 1, 0, 0, .null, .int) := by decide +kernel
theorem jF_305_9 : j_F 305 9 = some (.iload_n 2, 1, 0, 0, .null, .int) := by decide +kernel
theorem jF_305_10 : j_F 305 10 = some (.iadd, 1, 0, 0, .null, .int) := by decide +kernel
theorem jF_305_11 : j_F 305 11 = some (.ireturn, 1, 0, 0, .null, .int) := by decide +kernel
theorem jF_306_0 : j_F 306 0 = some (.aload_n 0, 1, 0, 0, .null, .int) := by decide +kernel
theorem jF_306_1 : j_F 306 1 = some (.iload_n 1, 1, 0, 0, .null, .int) := by decide +kernel
theorem jF_306_2 : j_F 306 2 = some (.iload_n 2, 1, 0, 0, .null, .int) := by decide +kernel
theorem jF_306_3 : j_F 306 3 = some (.sipush 2048, 3, 0, 0, .null, .int) := by decide +kernel
theorem jF_306_6 : j_F 306 6 = some (.idiv, 1, 0, 0, .null, .int) := by decide +kernel
theorem jF_306_7 : j_F 306 7 = some (.iload_n 2, 1, 0, 0, .null, .int) := by decide +kernel
theorem jF_306_8 : j_F 306 8 = some (.bipush 32, 2, 0, 0, .null, .int) := by decide +kernel
theorem jF_306_10 : j_F 306 10 = some (.idiv, 1, 0, 0, .null, .int) := by decide +kernel
theorem jF_306_11 : j_F 306 11 = some (.bipush 64, 2, 0, 0, .null, .int) := by decide +kernel
theorem jF_306_13 : j_F 306 13 = some (.irem, 1, 0, 0, .null, .int) := by decide +kernel
theorem jF_306_14 : j_F 306 14 = some (.iload_n 2, 1, 0, 0, .null, .int) := by decide +kernel
theorem jF_306_15 : j_F 306 15 = some (.bipush 32, 2, 0, 0, .null, .int) := by decide +kernel
theorem jF_306_17 : j_F 306 17 = some (.irem, 1, 0, 0, .null, .int) := by decide +kernel
theorem jF_306_18 : j_F 306 18 = some (.invokevirtual 465, 3, 288, 5, .null, .int) := by decide +kernel
theorem jF_306_21 : j_F 306 21 = some (.ireturn, 1, 0, 0, .null, .boolean) := by decide +kernel
theorem jF_307_0 : j_F 307 0 = some (.iconst 0, 1, 0, 0, .null, .int) := by decide +kernel
theorem jF_307_1 : j_F 307 1 = some (.istore_n 1, 1, 0, 0, .null, .int) := by decide +kernel
theorem jF_307_2 : j_F 307 2 = some (.iload_n 1, 1, 0, 0, .null, .int) := by decide +kernel
theorem jF_307_3 : j_F 307 3 = some (.aload_n 0, 1, 0, 0, .null, .int) := by decide +kernel
theorem jF_307_4 : j_F 307 4 = some (.getfield 521, 3, 12, 63, .null, .int) := by decide +kernel
theorem jF_307_7 : j_F 307 7 = some (.if_icmp .ge 33, 3, 40, 0, .null, .int) := by decide +kernel
theorem jF_307_10 : j_F 307 10 = some (.aload_n 0, 1, 0, 0, .null, .int) := by decide +kernel
theorem jF_307_11 : j_F 307 11 = some (.iconst 1, 1, 0, 0, .null, .int) := by decide +kernel
theorem jF_307_12 : j_F 307 12 = some (.aload_n 0, 1, 0, 0, .null, .int) := by decide +kernel
theorem jF_307_13 : j_F 307 13 = some (.getfield 130, 3, 12, 62, .null, (.array .int)) := by decide +kernel
theorem jF_307_16 : j_F 307 16 = some (.iload_n 1, 1, 0, 0, .null, .int) := by decide +kernel
theorem jF_307_17 : j_F 307 17 = some (.iaload, 1, 0, 0, .null, .int) := by decide +kernel
theorem jF_307_18 : j_F 307 18 = some (.invokevirtual 527, 3, 306, 3, .null, .int) := by decide +kernel
theorem jF_307_21 : j_F 307 21 = some (.ifCond .eq 13, 3, 34, 0, .null, .int) := by decide +kernel
theorem jF_307_24 : j_F 307 24 = some (.aload_n 0, 1, 0, 0, .null, .int) := by decide +kernel
theorem jF_307_25 : j_F 307 25 = some (.invokevirtual 530, 3, 303, 1, .null, .int) := by decide +kernel
theorem jF_307_28 : j_F 307 28 = some (.iconst 1, 1, 0, 0, .null, .int) := by decide +kernel
theorem jF_307_29 : j_F 307 29 = some (.if_icmp .ne 5, 3, 34, 0, .null, .int) := by decide +kernel
theorem jF_307_32 : j_F 307 32 = some (.iconst 1, 1, 0, 0, .null, .int) := by decide +kernel
theorem jF_307_33 : j_F 307 33 = some (.ireturn, 1, 0, 0, .null, .boolean) := by decide +kernel
theorem jF_307_34 : j_F 307 34 = some (.iinc 1 1, 3, 0, 0, .null, .int) := by decide +kernel
theorem jF_307_37 : j_F 307 37 = some (.goto (-35), 3, 2, 0, .null, .int) := by decide +kernel
theorem jF_307_40 : j_F 307 40 = some (.iconst 0, 1, 0, 0, .null, .int) := by decide +kernel
theorem jF_307_41 : j_F 307 41 = some (.ireturn, 1, 0, 0, .null, .boolean) := by decide +kernel
theorem jF_308_0 : j_F 308 0 = some (.aload_n 0, 1, 0, 0, .null, .int) := by decide +kernel
theorem jF_308_1 : j_F 308 1 = some (.iconst 0, 1, 0, 0, .null, .int) := by decide +kernel
theorem jF_308_2 : j_F 308 2 = some (.invokevirtual 448, 3, 277, 2, .null, .int) := by decide +kernel
theorem jF_308_5 : j_F 308 5 = some (.lstore_n 3, 1, 0, 0, .null, .int) := by decide +kernel
theorem jF_308_6 : j_F 308 6 = some (.aload_n 0, 1, 0, 0, .null, .int) := by decide +kernel
theorem jF_308_7 : j_F 308 7 = some (.iconst 1, 1, 0, 0, .null, .int) := by decide +kernel
theorem jF_308_8 : j_F 308 8 = some (.invokevirtual 448, 3, 277, 2, .null, .int) := by decide +kernel
theorem jF_308_11 : j_F 308 11 = some (.lstore 5, 2, 0, 0, .null, .int) := by decide +kernel
theorem jF_308_13 : j_F 308 13 = some (.iload_n 1, 1, 0, 0, .null, .int) := by decide +kernel
theorem jF_308_14 : j_F 308 14 = some (.ifCond .eq 14, 3, 28, 0, .null, .int) := by decide +kernel
theorem jF_308_17 : j_F 308 17 = some (.lload 5, 2, 0, 0, .null, .int) := by decide +kernel
theorem jF_308_19 : j_F 308 19 = some (.lload_n 3, 1, 0, 0, .null, .int) := by decide +kernel
theorem jF_308_20 : j_F 308 20 = some (.ldc2_w 407, 3, 0, 0, (.long (-1)), .int) := by decide +kernel
theorem jF_308_23 : j_F 308 23 = some (.lxor, 1, 0, 0, .null, .int) := by decide +kernel
theorem jF_308_24 : j_F 308 24 = some (.land, 1, 0, 0, .null, .int) := by decide +kernel
theorem jF_308_25 : j_F 308 25 = some (.goto 11, 3, 36, 0, .null, .int) := by decide +kernel
theorem jF_308_28 : j_F 308 28 = some (.lload_n 3, 1, 0, 0, .null, .int) := by decide +kernel
theorem jF_308_29 : j_F 308 29 = some (.lload 5, 2, 0, 0, .null, .int) := by decide +kernel
theorem jF_308_31 : j_F 308 31 = some (.ldc2_w 407, 3, 0, 0, (.long (-1)), .int) := by decide +kernel
theorem jF_308_34 : j_F 308 34 = some (.lxor, 1, 0, 0, .null, .int) := by decide +kernel
theorem jF_308_35 : j_F 308 35 = some (.land, 1, 0, 0, .null, .int) := by decide +kernel
theorem jF_308_36 : j_F 308 36 = some (.iload_n 2, 1, 0, 0, .null, .int) := by decide +kernel
theorem jF_308_37 : j_F 308 37 = some (.invokestatic 542, 3, 309, 2, .null, .int) := by decide +kernel
theorem jF_308_40 : j_F 308 40 = some (.ireturn, 1, 0, 0, .null, .int) := by decide +kernel
theorem jF_309_0 : j_F 309 0 = some (.iconst 0, 1, 0, 0, .null, .int) := by decide +kernel
theorem jF_309_1 : j_F 309 1 = some (.istore_n 3, 1, 0, 0, .null, .int) := by decide +kernel
theorem jF_309_2 : j_F 309 2 = some (.iconst 0, 1, 0, 0, .null, .int) := by decide +kernel
theorem jF_309_3 : j_F 309 3 = some (.istore 4, 2, 0, 0, .null, .int) := by decide +kernel
theorem jF_309_5 : j_F 309 5 = some (.iload 4, 2, 0, 0, .null, .int) := by decide +kernel
theorem jF_309_7 : j_F 309 7 = some (.bipush 64, 2, 0, 0, .null, .int) := by decide +kernel
theorem jF_309_9 : j_F 309 9 = some (.if_icmp .ge 34, 3, 43, 0, .null, .int) := by decide +kernel
theorem jF_309_12 : j_F 309 12 = some (.lload_n 0, 1, 0, 0, .null, .int) := by decide +kernel
theorem jF_309_13 : j_F 309 13 = some (.iload 4, 2, 0, 0, .null, .int) := by decide +kernel
theorem jF_309_15 : j_F 309 15 = some (.lshr, 1, 0, 0, .null, .int) := by decide +kernel
theorem jF_309_16 : j_F 309 16 = some (.lconst 1, 1, 0, 0, .null, .int) := by decide +kernel
theorem jF_309_17 : j_F 309 17 = some (.land, 1, 0, 0, .null, .int) := by decide +kernel
theorem jF_309_18 : j_F 309 18 = some (.lconst 0, 1, 0, 0, .null, .int) := by decide +kernel
theorem jF_309_19 : j_F 309 19 = some (.lcmp, 1, 0, 0, .null, .int) := by decide +kernel
theorem jF_309_20 : j_F 309 20 = some (.ifCond .ne 6, 3, 26, 0, .null, .int) := by decide +kernel
theorem jF_309_23 : j_F 309 23 = some (.goto 14, 3, 37, 0, .null, .int) := by decide +kernel
theorem jF_309_26 : j_F 309 26 = some (.iload_n 3, 1, 0, 0, .null, .int) := by decide +kernel
theorem jF_309_27 : j_F 309 27 = some (.iload_n 2, 1, 0, 0, .null, .int) := by decide +kernel
theorem jF_309_28 : j_F 309 28 = some (.if_icmp .ne 6, 3, 34, 0, .null, .int) := by decide +kernel
theorem jF_309_31 : j_F 309 31 = some (.iload 4, 2, 0, 0, .null, .int) := by decide +kernel
theorem jF_309_33 : j_F 309 33 = some (.ireturn, 1, 0, 0, .null, .int) := by decide +kernel
theorem jF_309_34 : j_F 309 34 = some (.iinc 3 1, 3, 0, 0, .null, .int) := by decide +kernel
theorem jF_309_37 : j_F 309 37 = some (.iinc 4 1, 3, 0, 0, .null, .int) := by decide +kernel
theorem jF_309_40 : j_F 309 40 = some (.goto (-35), 3, 5, 0, .null, .int) := by decide +kernel
theorem jF_309_43 : j_F 309 43 = some (.iconst (-1), 1, 0, 0, .null, .int) := by decide +kernel
theorem jF_309_44 : j_F 309 44 = some (.ireturn, 1, 0, 0, .null, .int) := by decide +kernel
theorem jF_310_0 : j_F 310 0 = some (.aload_n 0, 1, 0, 0, .null, .int) := by decide +kernel
theorem jF_310_1 : j_F 310 1 = some (.iconst 0, 1, 0, 0, .null, .int) := by decide +kernel
theorem jF_310_2 : j_F 310 2 = some (.invokevirtual 448, 3, 277, 2, .null, .int) := by decide +kernel
theorem jF_310_5 : j_F 310 5 = some (.aload_n 0, 1, 0, 0, .null, .int) := by decide +kernel
theorem jF_310_6 : j_F 310 6 = some (.iconst 1, 1, 0, 0, .null, .int) := by decide +kernel
theorem jF_310_7 : j_F 310 7 = some (.invokevirtual 448, 3, 277, 2, .null, .int) := by decide +kernel
theorem jF_310_10 : j_F 310 10 = some (.lxor, 1, 0, 0, .null, .int) := by decide +kernel
theorem jF_310_11 : j_F 310 11 = some (.iconst 0, 1, 0, 0, .null, .int) := by decide +kernel
theorem jF_310_12 : j_F 310 12 = some (.invokestatic 542, 3, 309, 2, .null, .int) := by decide +kernel
theorem jF_310_15 : j_F 310 15 = some (.ireturn, 1, 0, 0, .null, .int) := by decide +kernel
theorem jF_312_0 : j_F 312 0 = some (.iload_n 1, 1, 0, 0, .null, .int) := by decide +kernel
theorem jF_312_1 : j_F 312 1 = some (.i2l, 1, 0, 0, .null, .int) := by decide +kernel
theorem jF_312_2 : j_F 312 2 = some (.lconst 0, 1, 0, 0, .null, .int) := by decide +kernel
theorem jF_312_3 : j_F 312 3 = some (.aload_n 0, 1, 0, 0, .null, .int) := by decide +kernel
theorem jF_312_4 : j_F 312 4 = some (.getfield 340, 3, 12, 34, .null, .int) := by decide +kernel
theorem jF_312_7 : j_F 312 7 = some (.iconst 1, 1, 0, 0, .null, .int) := by decide +kernel
theorem jF_312_8 : j_F 312 8 = some (.isub, 1, 0, 0, .null, .int) := by decide +kernel
theorem jF_312_9 : j_F 312 9 = some (.i2l, 1, 0, 0, .null, .int) := by decide +kernel
theorem jF_312_10 : j_F 312 10 = some (.invokestatic 252, 3, 232, 3, .null, .int) := by decide +kernel
theorem jF_312_13 : j_F 312 13 = some (.ireturn, 1, 0, 0, .null, .boolean) := by decide +kernel
theorem jF_322_0 : j_F 322 0 = some (.iload_n 1, 1, 0, 0, .null, .int) := by decide +kernel
theorem jF_322_1 : j_F 322 1 = some (.ifCond .ge 15, 3, 16, 0, .null, .int) := by decide +kernel
theorem jF_322_4 : j_F 322 4 = some (.aload_n 0, 1, 0, 0, .null, .int) := by decide +kernel
theorem jF_322_5 : j_F 322 5 = some (.getfield 17, 3, 12, 9, .null, (.array .int)) := by decide +kernel
theorem jF_322_8 : j_F 322 8 = some (.iconst 4, 1, 0, 0, .null, .int) := by decide +kernel
theorem jF_322_9 : j_F 322 9 = some (.dup2, 1, 0, 0, .null, .int) := by decide +kernel
theorem jF_322_10 : j_F 322 10 = some (.iaload, 1, 0, 0, .null, .int) := by decide +kernel
theorem jF_322_11 : j_F 322 11 = some (.iconst 1, 1, 0, 0, .null, .int) := by decide +kernel
theorem jF_322_12 : j_F 322 12 = some (.iadd, 1, 0, 0, .null, .int) := by decide +kernel
theorem jF_322_13 : j_F 322 13 = some (.iastore, 1, 0, 0, .null, .int) := by decide +kernel
theorem jF_322_14 : j_F 322 14 = some (.iconst 0, 1, 0, 0, .null, .int) := by decide +kernel
theorem jF_322_15 : j_F 322 15 = some (.ireturn, 1, 0, 0, .null, .boolean) := by decide +kernel
theorem jF_322_16 : j_F 322 16 = some (.aload_n 0, 1, 0, 0, .null, .int) := by decide +kernel
theorem jF_322_17 : j_F 322 17 = some (.iload_n 1, 1, 0, 0, .null, .int) := by decide +kernel
theorem jF_322_18 : j_F 322 18 = some (.i2l, 1, 0, 0, .null, .int) := by decide +kernel
theorem jF_322_19 : j_F 322 19 = some (.putfield 136, 3, 12, 66, .null, .long) := by decide +kernel
theorem jF_322_22 : j_F 322 22 = some (.iconst 1, 1, 0, 0, .null, .int) := by decide +kernel
theorem jF_322_23 : j_F 322 23 = some (.ireturn, 1, 0, 0, .null, .boolean) := by decide +kernel
theorem jF_359_0 : j_F 359 0 = some (.iload_n 1, 1, 0, 0, .null, .int) := by decide +kernel
theorem jF_359_1 : j_F 359 1 = some (.i2l, 1, 0, 0, .null, .int) := by decide +kernel
theorem jF_359_2 : j_F 359 2 = some (.lconst 0, 1, 0, 0, .null, .int) := by decide +kernel
theorem jF_359_3 : j_F 359 3 = some (.ldc2_w 430, 3, 0, 0, (.long (5)), .int) := by decide +kernel
theorem jF_359_6 : j_F 359 6 = some (.invokestatic 252, 3, 232, 3, .null, .int) := by decide +kernel
theorem jF_359_9 : j_F 359 9 = some (.ifCond .eq 12, 3, 21, 0, .null, .int) := by decide +kernel
theorem jF_359_12 : j_F 359 12 = some (.aload_n 0, 1, 0, 0, .null, .int) := by decide +kernel
theorem jF_359_13 : j_F 359 13 = some (.getfield 17, 3, 12, 9, .null, (.array .int)) := by decide +kernel
theorem jF_359_16 : j_F 359 16 = some (.iload_n 1, 1, 0, 0, .null, .int) := by decide +kernel
theorem jF_359_17 : j_F 359 17 = some (.iaload, 1, 0, 0, .null, .int) := by decide +kernel
theorem jF_359_18 : j_F 359 18 = some (.goto 4, 3, 22, 0, .null, .int) := by decide +kernel
theorem jF_359_21 : j_F 359 21 = some (.iconst (-1), 1, 0, 0, .null, .int) := by decide +kernel
theorem jF_359_22 : j_F 359 22 = some (.ireturn, 1, 0, 0, .null, .int) := by decide +kernel
