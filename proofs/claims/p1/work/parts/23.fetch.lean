theorem jF_24_0 : j_F 24 0 = some (.aload_n 0, 1, 0, 0, .null, .int) := by decide +kernel
theorem jF_24_1 : j_F 24 1 = some (.getfield 10, 3, 11, 0, .null, (.object "HundredWords$Tape")) := by decide +kernel
theorem jF_24_4 : j_F 24 4 = some (.getfield 101, 3, 6, 1, .null, .int) := by decide +kernel
theorem jF_24_7 : j_F 24 7 = some (.bipush 20, 2, 0, 0, .null, .int) := by decide +kernel
theorem jF_24_9 : j_F 24 9 = some (.iadd, 1, 0, 0, .null, .int) := by decide +kernel
theorem jF_24_10 : j_F 24 10 = some (.sipush 1600, 3, 0, 0, .null, .int) := by decide +kernel
theorem jF_24_13 : j_F 24 13 = some (.if_icmp .le 9, 3, 22, 0, .null, .int) := by decide +kernel
theorem jF_24_22 : j_F 24 22 = some (.aload_n 0, 1, 0, 0, .null, .int) := by decide +kernel
theorem jF_24_23 : j_F 24 23 = some (.getfield 10, 3, 11, 0, .null, (.object "HundredWords$Tape")) := by decide +kernel
theorem jF_24_26 : j_F 24 26 = some (.iload_n 1, 1, 0, 0, .null, .int) := by decide +kernel
theorem jF_24_27 : j_F 24 27 = some (.invokevirtual 109, 3, 26, 2, .null, .int) := by decide +kernel
theorem jF_24_30 : j_F 24 30 = some (.aload_n 0, 1, 0, 0, .null, .int) := by decide +kernel
theorem jF_24_31 : j_F 24 31 = some (.getfield 10, 3, 11, 0, .null, (.object "HundredWords$Tape")) := by decide +kernel
theorem jF_24_34 : j_F 24 34 = some (.iload_n 2, 1, 0, 0, .null, .int) := by decide +kernel
theorem jF_24_35 : j_F 24 35 = some (.invokevirtual 109, 3, 26, 2, .null, .int) := by decide +kernel
theorem jF_24_38 : j_F 24 38 = some (.aload_n 0, 1, 0, 0, .null, .int) := by decide +kernel
theorem jF_24_39 : j_F 24 39 = some (.getfield 10, 3, 11, 0, .null, (.object "HundredWords$Tape")) := by decide +kernel
theorem jF_24_42 : j_F 24 42 = some (.iload_n 3, 1, 0, 0, .null, .int) := by decide +kernel
theorem jF_24_43 : j_F 24 43 = some (.invokevirtual 109, 3, 26, 2, .null, .int) := by decide +kernel
theorem jF_24_46 : j_F 24 46 = some (.aload_n 0, 1, 0, 0, .null, .int) := by decide +kernel
theorem jF_24_47 : j_F 24 47 = some (.getfield 10, 3, 11, 0, .null, (.object "HundredWords$Tape")) := by decide +kernel
theorem jF_24_50 : j_F 24 50 = some (.iload 4, 2, 0, 0, .null, .int) := by decide +kernel
theorem jF_24_52 : j_F 24 52 = some (.invokevirtual 109, 3, 26, 2, .null, .int) := by decide +kernel
theorem jF_24_55 : j_F 24 55 = some (.aload_n 0, 1, 0, 0, .null, .int) := by decide +kernel
theorem jF_24_56 : j_F 24 56 = some (.getfield 10, 3, 11, 0, .null, (.object "HundredWords$Tape")) := by decide +kernel
theorem jF_24_59 : j_F 24 59 = some (.iload 5, 2, 0, 0, .null, .int) := by decide +kernel
theorem jF_24_61 : j_F 24 61 = some (.invokevirtual 109, 3, 26, 2, .null, .int) := by decide +kernel
theorem jF_24_64 : j_F 24 64 = some (.aload_n 0, 1, 0, 0, .null, .int) := by decide +kernel
theorem jF_24_65 : j_F 24 65 = some (.getfield 10, 3, 11, 0, .null, (.object "HundredWords$Tape")) := by decide +kernel
theorem jF_24_68 : j_F 24 68 = some (.getfield 101, 3, 6, 1, .null, .int) := by decide +kernel
theorem jF_24_71 : j_F 24 71 = some (.ireturn, 1, 0, 0, .null, .int) := by decide +kernel
theorem jF_26_0 : j_F 26 0 = some (.bipush 24, 2, 0, 0, .null, .int) := by decide +kernel
theorem jF_26_2 : j_F 26 2 = some (.istore_n 2, 1, 0, 0, .null, .int) := by decide +kernel
theorem jF_26_3 : j_F 26 3 = some (.iload_n 2, 1, 0, 0, .null, .int) := by decide +kernel
theorem jF_26_4 : j_F 26 4 = some (.ifCond .lt 45, 3, 49, 0, .null, .int) := by decide +kernel
theorem jF_26_7 : j_F 26 7 = some (.aload_n 0, 1, 0, 0, .null, .int) := by decide +kernel
theorem jF_26_8 : j_F 26 8 = some (.getfield 19, 3, 6, 1, .null, .int) := by decide +kernel
theorem jF_26_11 : j_F 26 11 = some (.sipush 1600, 3, 0, 0, .null, .int) := by decide +kernel
theorem jF_26_14 : j_F 26 14 = some (.if_icmp .ge 35, 3, 49, 0, .null, .int) := by decide +kernel
theorem jF_26_17 : j_F 26 17 = some (.aload_n 0, 1, 0, 0, .null, .int) := by decide +kernel
theorem jF_26_18 : j_F 26 18 = some (.getfield 11, 3, 6, 0, .null, (.array .int)) := by decide +kernel
theorem jF_26_21 : j_F 26 21 = some (.aload_n 0, 1, 0, 0, .null, .int) := by decide +kernel
theorem jF_26_22 : j_F 26 22 = some (.getfield 19, 3, 6, 1, .null, .int) := by decide +kernel
theorem jF_26_25 : j_F 26 25 = some (.iload_n 1, 1, 0, 0, .null, .int) := by decide +kernel
theorem jF_26_26 : j_F 26 26 = some (.iload_n 2, 1, 0, 0, .null, .int) := by decide +kernel
theorem jF_26_27 : j_F 26 27 = some (.iushr, 1, 0, 0, .null, .int) := by decide +kernel
theorem jF_26_28 : j_F 26 28 = some (.sipush 255, 3, 0, 0, .null, .int) := by decide +kernel
theorem jF_26_31 : j_F 26 31 = some (.iand, 1, 0, 0, .null, .int) := by decide +kernel
theorem jF_26_32 : j_F 26 32 = some (.iastore, 1, 0, 0, .null, .int) := by decide +kernel
theorem jF_26_33 : j_F 26 33 = some (.aload_n 0, 1, 0, 0, .null, .int) := by decide +kernel
theorem jF_26_34 : j_F 26 34 = some (.dup, 1, 0, 0, .null, .int) := by decide +kernel
theorem jF_26_35 : j_F 26 35 = some (.getfield 19, 3, 6, 1, .null, .int) := by decide +kernel
theorem jF_26_38 : j_F 26 38 = some (.iconst 1, 1, 0, 0, .null, .int) := by decide +kernel
theorem jF_26_39 : j_F 26 39 = some (.iadd, 1, 0, 0, .null, .int) := by decide +kernel
theorem jF_26_40 : j_F 26 40 = some (.putfield 19, 3, 6, 1, .null, .int) := by decide +kernel
theorem jF_26_43 : j_F 26 43 = some (.iinc 2 (-8), 3, 0, 0, .null, .int) := by decide +kernel
theorem jF_26_46 : j_F 26 46 = some (.goto (-43), 3, 3, 0, .null, .int) := by decide +kernel
theorem jF_26_49 : j_F 26 49 = some (.return_, 1, 0, 0, .null, .int) := by decide +kernel
theorem jF_27_0 : j_F 27 0 = some (.iload_n 1, 1, 0, 0, .null, .int) := by decide +kernel
theorem jF_27_1 : j_F 27 1 = some (.ifCond .lt 14, 3, 15, 0, .null, .int) := by decide +kernel
theorem jF_27_4 : j_F 27 4 = some (.iload_n 1, 1, 0, 0, .null, .int) := by decide +kernel
theorem jF_27_5 : j_F 27 5 = some (.aload_n 0, 1, 0, 0, .null, .int) := by decide +kernel
theorem jF_27_6 : j_F 27 6 = some (.getfield 10, 3, 11, 0, .null, (.object "HundredWords$Tape")) := by decide +kernel
theorem jF_27_9 : j_F 27 9 = some (.getfield 101, 3, 6, 1, .null, .int) := by decide +kernel
theorem jF_27_12 : j_F 27 12 = some (.if_icmp .le 11, 3, 23, 0, .null, .int) := by decide +kernel
theorem jF_27_15 : j_F 27 15 = some (.aload_n 0, 1, 0, 0, .null, .int) := by decide +kernel
theorem jF_27_16 : j_F 27 16 = some (.iconst 0, 1, 0, 0, .null, .int) := by decide +kernel
theorem jF_27_17 : j_F 27 17 = some (.invokevirtual 105, 3, 25, 2, .null, .int) := by decide +kernel
theorem jF_27_20 : j_F 27 20 = some (.pop, 1, 0, 0, .null, .int) := by decide +kernel
theorem jF_27_21 : j_F 27 21 = some (.iconst 0, 1, 0, 0, .null, .int) := by decide +kernel
theorem jF_27_22 : j_F 27 22 = some (.ireturn, 1, 0, 0, .null, .boolean) := by decide +kernel
theorem jF_89_0 : j_F 89 0 = some (.iload_n 1, 1, 0, 0, .null, .int) := by decide +kernel
theorem jF_89_1 : j_F 89 1 = some (.ifCond .ne 11, 3, 12, 0, .null, .int) := by decide +kernel
theorem jF_89_12 : j_F 89 12 = some (.iload_n 1, 1, 0, 0, .null, .int) := by decide +kernel
theorem jF_89_13 : j_F 89 13 = some (.iconst 1, 1, 0, 0, .null, .int) := by decide +kernel
theorem jF_89_14 : j_F 89 14 = some (.if_icmp .ne 13, 3, 27, 0, .null, .int) := by decide +kernel
theorem jF_89_27 : j_F 89 27 = some (.iconst (-1), 1, 0, 0, .null, .int) := by decide +kernel
theorem jF_89_28 : j_F 89 28 = some (.ireturn, 1, 0, 0, .null, .int) := by decide +kernel
theorem jF_90_0 : j_F 90 0 = some (.iload_n 1, 1, 0, 0, .null, .int) := by decide +kernel
theorem jF_90_1 : j_F 90 1 = some (.bipush 10, 2, 0, 0, .null, .int) := by decide +kernel
theorem jF_90_3 : j_F 90 3 = some (.if_icmp .ne 13, 3, 16, 0, .null, .int) := by decide +kernel
theorem jF_90_16 : j_F 90 16 = some (.aload_n 0, 1, 0, 0, .null, .int) := by decide +kernel
theorem jF_90_17 : j_F 90 17 = some (.getfield 42, 3, 11, 4, .null, (.object "HundredWords$Tongue")) := by decide +kernel
theorem jF_90_20 : j_F 90 20 = some (.iload_n 1, 1, 0, 0, .null, .int) := by decide +kernel
theorem jF_90_21 : j_F 90 21 = some (.invokevirtual 158, 3, 91, 2, .null, .int) := by decide +kernel
theorem jF_90_24 : j_F 90 24 = some (.ireturn, 1, 0, 0, .null, .int) := by decide +kernel
theorem jF_91_0 : j_F 91 0 = some (.iload_n 1, 1, 0, 0, .null, .int) := by decide +kernel
theorem jF_91_1 : j_F 91 1 = some (.tableswitch 106 0 9 #[55, 55, 55, 62, 67, 72, 77, 85, 93, 101], 55, 0, 0, .null, .int) := by decide +kernel
theorem jF_91_107 : j_F 91 107 = some (.iconst (-1), 1, 0, 0, .null, .int) := by decide +kernel
theorem jF_91_108 : j_F 91 108 = some (.ireturn, 1, 0, 0, .null, .int) := by decide +kernel
theorem jF_92_0 : j_F 92 0 = some (.aload_n 0, 1, 0, 0, .null, .int) := by decide +kernel
theorem jF_92_1 : j_F 92 1 = some (.getfield 42, 3, 11, 4, .null, (.object "HundredWords$Tongue")) := by decide +kernel
theorem jF_92_4 : j_F 92 4 = some (.iload_n 1, 1, 0, 0, .null, .int) := by decide +kernel
theorem jF_92_5 : j_F 92 5 = some (.iload_n 2, 1, 0, 0, .null, .int) := by decide +kernel
theorem jF_92_6 : j_F 92 6 = some (.invokevirtual 161, 3, 93, 3, .null, .int) := by decide +kernel
theorem jF_92_9 : j_F 92 9 = some (.ireturn, 1, 0, 0, .null, .int) := by decide +kernel
theorem jF_93_0 : j_F 93 0 = some (.iload_n 1, 1, 0, 0, .null, .int) := by decide +kernel
theorem jF_93_1 : j_F 93 1 = some (.ifCond .lt 31, 3, 32, 0, .null, .int) := by decide +kernel
theorem jF_93_4 : j_F 93 4 = some (.iload_n 1, 1, 0, 0, .null, .int) := by decide +kernel
theorem jF_93_5 : j_F 93 5 = some (.aload_n 0, 1, 0, 0, .null, .int) := by decide +kernel
theorem jF_93_6 : j_F 93 6 = some (.getfield 11, 3, 8, 0, .null, (.array .int)) := by decide +kernel
theorem jF_93_9 : j_F 93 9 = some (.arraylength, 1, 0, 0, .null, .int) := by decide +kernel
theorem jF_93_10 : j_F 93 10 = some (.if_icmp .ge 22, 3, 32, 0, .null, .int) := by decide +kernel
theorem jF_93_13 : j_F 93 13 = some (.iload_n 2, 1, 0, 0, .null, .int) := by decide +kernel
theorem jF_93_14 : j_F 93 14 = some (.ifCond .lt 18, 3, 32, 0, .null, .int) := by decide +kernel
theorem jF_93_17 : j_F 93 17 = some (.iload_n 2, 1, 0, 0, .null, .int) := by decide +kernel
theorem jF_93_18 : j_F 93 18 = some (.bipush 6, 2, 0, 0, .null, .int) := by decide +kernel
theorem jF_93_20 : j_F 93 20 = some (.if_icmp .ge 12, 3, 32, 0, .null, .int) := by decide +kernel
theorem jF_93_23 : j_F 93 23 = some (.aload_n 0, 1, 0, 0, .null, .int) := by decide +kernel
theorem jF_93_24 : j_F 93 24 = some (.getfield 11, 3, 8, 0, .null, (.array .int)) := by decide +kernel
theorem jF_93_27 : j_F 93 27 = some (.iload_n 1, 1, 0, 0, .null, .int) := by decide +kernel
theorem jF_93_28 : j_F 93 28 = some (.iaload, 1, 0, 0, .null, .int) := by decide +kernel
theorem jF_93_29 : j_F 93 29 = some (.ifCond .ne 5, 3, 34, 0, .null, .int) := by decide +kernel
theorem jF_93_32 : j_F 93 32 = some (.iconst (-1), 1, 0, 0, .null, .int) := by decide +kernel
theorem jF_93_33 : j_F 93 33 = some (.ireturn, 1, 0, 0, .null, .int) := by decide +kernel
theorem jF_94_0 : j_F 94 0 = some (.iload_n 1, 1, 0, 0, .null, .int) := by decide +kernel
theorem jF_94_1 : j_F 94 1 = some (.ifCond .eq 10, 3, 11, 0, .null, .int) := by decide +kernel
theorem jF_94_4 : j_F 94 4 = some (.aload_n 0, 1, 0, 0, .null, .int) := by decide +kernel
theorem jF_94_5 : j_F 94 5 = some (.getfield 56, 3, 11, 7, .null, (.object "HundredWords$Row")) := by decide +kernel
theorem jF_94_8 : j_F 94 8 = some (.goto 7, 3, 15, 0, .null, .int) := by decide +kernel
theorem jF_94_11 : j_F 94 11 = some (.aload_n 0, 1, 0, 0, .null, .int) := by decide +kernel
theorem jF_94_12 : j_F 94 12 = some (.getfield 52, 3, 11, 6, .null, (.object "HundredWords$Row")) := by decide +kernel
theorem jF_94_15 : j_F 94 15 = some (.astore_n 3, 1, 0, 0, .null, .int) := by decide +kernel
theorem jF_94_16 : j_F 94 16 = some (.iload_n 2, 1, 0, 0, .null, .int) := by decide +kernel
theorem jF_94_17 : j_F 94 17 = some (.iconst (-1), 1, 0, 0, .null, .int) := by decide +kernel
theorem jF_94_18 : j_F 94 18 = some (.if_icmp .ne 8, 3, 26, 0, .null, .int) := by decide +kernel
theorem jF_94_26 : j_F 94 26 = some (.iload_n 2, 1, 0, 0, .null, .int) := by decide +kernel
theorem jF_94_27 : j_F 94 27 = some (.ifCond .lt 20, 3, 47, 0, .null, .int) := by decide +kernel
theorem jF_94_30 : j_F 94 30 = some (.iload_n 2, 1, 0, 0, .null, .int) := by decide +kernel
theorem jF_94_31 : j_F 94 31 = some (.aload_n 3, 1, 0, 0, .null, .int) := by decide +kernel
theorem jF_94_32 : j_F 94 32 = some (.getfield 165, 3, 4, 1, .null, .int) := by decide +kernel
theorem jF_94_35 : j_F 94 35 = some (.if_icmp .ge 12, 3, 47, 0, .null, .int) := by decide +kernel
theorem jF_94_47 : j_F 94 47 = some (.iconst (-1), 1, 0, 0, .null, .int) := by decide +kernel
theorem jF_94_48 : j_F 94 48 = some (.ireturn, 1, 0, 0, .null, .int) := by decide +kernel
theorem jF_95_0 : j_F 95 0 = some (.iload_n 1, 1, 0, 0, .null, .int) := by decide +kernel
theorem jF_95_1 : j_F 95 1 = some (.ifCond .eq 10, 3, 11, 0, .null, .int) := by decide +kernel
theorem jF_95_4 : j_F 95 4 = some (.aload_n 0, 1, 0, 0, .null, .int) := by decide +kernel
theorem jF_95_5 : j_F 95 5 = some (.getfield 56, 3, 11, 7, .null, (.object "HundredWords$Row")) := by decide +kernel
theorem jF_95_8 : j_F 95 8 = some (.goto 7, 3, 15, 0, .null, .int) := by decide +kernel
theorem jF_95_11 : j_F 95 11 = some (.aload_n 0, 1, 0, 0, .null, .int) := by decide +kernel
theorem jF_95_12 : j_F 95 12 = some (.getfield 52, 3, 11, 6, .null, (.object "HundredWords$Row")) := by decide +kernel
theorem jF_95_15 : j_F 95 15 = some (.astore_n 3, 1, 0, 0, .null, .int) := by decide +kernel
theorem jF_95_16 : j_F 95 16 = some (.iload_n 2, 1, 0, 0, .null, .int) := by decide +kernel
theorem jF_95_17 : j_F 95 17 = some (.tableswitch 81 0 4 #[35, 40, 45, 53, 58], 35, 0, 0, .null, .int) := by decide +kernel
theorem jF_95_98 : j_F 95 98 = some (.iconst (-1), 1, 0, 0, .null, .int) := by decide +kernel
theorem jF_95_99 : j_F 95 99 = some (.ireturn, 1, 0, 0, .null, .int) := by decide +kernel
theorem jF_96_0 : j_F 96 0 = some (.lload_n 0, 1, 0, 0, .null, .int) := by decide +kernel
theorem jF_96_1 : j_F 96 1 = some (.lload_n 0, 1, 0, 0, .null, .int) := by decide +kernel
theorem jF_96_2 : j_F 96 2 = some (.iconst 1, 1, 0, 0, .null, .int) := by decide +kernel
theorem jF_96_3 : j_F 96 3 = some (.lushr, 1, 0, 0, .null, .int) := by decide +kernel
theorem jF_96_4 : j_F 96 4 = some (.ldc2_w 314, 3, 0, 0, (.long (6148914691236517205)), .int) := by decide +kernel
theorem jF_96_7 : j_F 96 7 = some (.land, 1, 0, 0, .null, .int) := by decide +kernel
theorem jF_96_8 : j_F 96 8 = some (.lsub, 1, 0, 0, .null, .int) := by decide +kernel
theorem jF_96_9 : j_F 96 9 = some (.lstore_n 0, 1, 0, 0, .null, .int) := by decide +kernel
theorem jF_96_10 : j_F 96 10 = some (.lload_n 0, 1, 0, 0, .null, .int) := by decide +kernel
theorem jF_96_11 : j_F 96 11 = some (.ldc2_w 316, 3, 0, 0, (.long (3689348814741910323)), .int) := by decide +kernel
theorem jF_96_14 : j_F 96 14 = some (.land, 1, 0, 0, .null, .int) := by decide +kernel
theorem jF_96_15 : j_F 96 15 = some (.lload_n 0, 1, 0, 0, .null, .int) := by decide +kernel
theorem jF_96_16 : j_F 96 16 = some (.iconst 2, 1, 0, 0, .null, .int) := by decide +kernel
theorem jF_96_17 : j_F 96 17 = some (.lushr, 1, 0, 0, .null, .int) := by decide +kernel
theorem jF_96_18 : j_F 96 18 = some (.ldc2_w 316, 3, 0, 0, (.long (3689348814741910323)), .int) := by decide +kernel
theorem jF_96_21 : j_F 96 21 = some (.land, 1, 0, 0, .null, .int) := by decide +kernel
theorem jF_96_22 : j_F 96 22 = some (.ladd, 1, 0, 0, .null, .int) := by decide +kernel
theorem jF_96_23 : j_F 96 23 = some (.lstore_n 0, 1, 0, 0, .null, .int) := by decide +kernel
theorem jF_96_24 : j_F 96 24 = some (.lload_n 0, 1, 0, 0, .null, .int) := by decide +kernel
theorem jF_96_25 : j_F 96 25 = some (.lload_n 0, 1, 0, 0, .null, .int) := by decide +kernel
theorem jF_96_26 : j_F 96 26 = some (.iconst 4, 1, 0, 0, .null, .int) := by decide +kernel
theorem jF_96_27 : j_F 96 27 = some (.lushr, 1, 0, 0, .null, .int) := by decide +kernel
theorem jF_96_28 : j_F 96 28 = some (.ladd, 1, 0, 0, .null, .int) := by decide +kernel
theorem jF_96_29 : j_F 96 29 = some (.ldc2_w 318, 3, 0, 0, (.long (1085102592571150095)), .int) := by decide +kernel
theorem jF_96_32 : j_F 96 32 = some (.land, 1, 0, 0, .null, .int) := by decide +kernel
theorem jF_96_33 : j_F 96 33 = some (.lstore_n 0, 1, 0, 0, .null, .int) := by decide +kernel
theorem jF_96_34 : j_F 96 34 = some (.lload_n 0, 1, 0, 0, .null, .int) := by decide +kernel
theorem jF_96_35 : j_F 96 35 = some (.lload_n 0, 1, 0, 0, .null, .int) := by decide +kernel
theorem jF_96_36 : j_F 96 36 = some (.bipush 8, 2, 0, 0, .null, .int) := by decide +kernel
theorem jF_96_38 : j_F 96 38 = some (.lushr, 1, 0, 0, .null, .int) := by decide +kernel
theorem jF_96_39 : j_F 96 39 = some (.ladd, 1, 0, 0, .null, .int) := by decide +kernel
theorem jF_96_40 : j_F 96 40 = some (.lstore_n 0, 1, 0, 0, .null, .int) := by decide +kernel
theorem jF_96_41 : j_F 96 41 = some (.lload_n 0, 1, 0, 0, .null, .int) := by decide +kernel
theorem jF_96_42 : j_F 96 42 = some (.lload_n 0, 1, 0, 0, .null, .int) := by decide +kernel
theorem jF_96_43 : j_F 96 43 = some (.bipush 16, 2, 0, 0, .null, .int) := by decide +kernel
theorem jF_96_45 : j_F 96 45 = some (.lushr, 1, 0, 0, .null, .int) := by decide +kernel
theorem jF_96_46 : j_F 96 46 = some (.ladd, 1, 0, 0, .null, .int) := by decide +kernel
theorem jF_96_47 : j_F 96 47 = some (.lstore_n 0, 1, 0, 0, .null, .int) := by decide +kernel
theorem jF_96_48 : j_F 96 48 = some (.lload_n 0, 1, 0, 0, .null, .int) := by decide +kernel
theorem jF_96_49 : j_F 96 49 = some (.lload_n 0, 1, 0, 0, .null, .int) := by decide +kernel
theorem jF_96_50 : j_F 96 50 = some (.bipush 32, 2, 0, 0, .null, .int) := by decide +kernel
theorem jF_96_52 : j_F 96 52 = some (.lushr, 1, 0, 0, .null, .int) := by decide +kernel
theorem jF_96_53 : j_F 96 53 = some (.ladd, 1, 0, 0, .null, .int) := by decide +kernel
theorem jF_96_54 : j_F 96 54 = some (.lstore_n 0, 1, 0, 0, .null, .int) := by decide +kernel
theorem jF_96_55 : j_F 96 55 = some (.lload_n 0, 1, 0, 0, .null, .int) := by decide +kernel
theorem jF_96_56 : j_F 96 56 = some (.l2i, 1, 0, 0, .null, .int) := by decide +kernel
theorem jF_96_57 : j_F 96 57 = some (.bipush 127, 2, 0, 0, .null, .int) := by decide +kernel
theorem jF_96_59 : j_F 96 59 = some (.iand, 1, 0, 0, .null, .int) := by decide +kernel
theorem jF_96_60 : j_F 96 60 = some (.ireturn, 1, 0, 0, .null, .int) := by decide +kernel
theorem jF_98_0 : j_F 98 0 = some (.iload_n 0, 1, 0, 0, .null, .int) := by decide +kernel
theorem jF_98_1 : j_F 98 1 = some (.ifCond .eq 7, 3, 8, 0, .null, .int) := by decide +kernel
theorem jF_98_4 : j_F 98 4 = some (.iconst 1, 1, 0, 0, .null, .int) := by decide +kernel
theorem jF_98_5 : j_F 98 5 = some (.goto 4, 3, 9, 0, .null, .int) := by decide +kernel
theorem jF_98_8 : j_F 98 8 = some (.iconst 0, 1, 0, 0, .null, .int) := by decide +kernel
theorem jF_98_9 : j_F 98 9 = some (.ireturn, 1, 0, 0, .null, .int) := by decide +kernel
theorem jF_99_0 : j_F 99 0 = some (.aload_n 0, 1, 0, 0, .null, .int) := by decide +kernel
theorem jF_99_1 : j_F 99 1 = some (.getfield 42, 3, 11, 4, .null, (.object "HundredWords$Tongue")) := by decide +kernel
theorem jF_99_4 : j_F 99 4 = some (.iload_n 2, 1, 0, 0, .null, .int) := by decide +kernel
theorem jF_99_5 : j_F 99 5 = some (.invokevirtual 187, 3, 100, 2, .null, .int) := by decide +kernel
theorem jF_99_8 : j_F 99 8 = some (.ifCond .ne 5, 3, 13, 0, .null, .int) := by decide +kernel
theorem jF_99_11 : j_F 99 11 = some (.iconst (-1), 1, 0, 0, .null, .int) := by decide +kernel
theorem jF_99_12 : j_F 99 12 = some (.ireturn, 1, 0, 0, .null, .int) := by decide +kernel
theorem jF_100_0 : j_F 100 0 = some (.iload_n 1, 1, 0, 0, .null, .int) := by decide +kernel
theorem jF_100_1 : j_F 100 1 = some (.ifCond .lt 15, 3, 16, 0, .null, .int) := by decide +kernel
theorem jF_100_4 : j_F 100 4 = some (.iload_n 1, 1, 0, 0, .null, .int) := by decide +kernel
theorem jF_100_5 : j_F 100 5 = some (.aload_n 0, 1, 0, 0, .null, .int) := by decide +kernel
theorem jF_100_6 : j_F 100 6 = some (.getfield 68, 3, 8, 12, .null, .int) := by decide +kernel
theorem jF_100_9 : j_F 100 9 = some (.if_icmp .ge 7, 3, 16, 0, .null, .int) := by decide +kernel
theorem jF_100_16 : j_F 100 16 = some (.iconst 0, 1, 0, 0, .null, .int) := by decide +kernel
theorem jF_100_17 : j_F 100 17 = some (.ireturn, 1, 0, 0, .null, .boolean) := by decide +kernel
theorem jF_101_0 : j_F 101 0 = some (.lload_n 0, 1, 0, 0, .null, .int) := by decide +kernel
theorem jF_101_1 : j_F 101 1 = some (.iload_n 2, 1, 0, 0, .null, .int) := by decide +kernel
theorem jF_101_2 : j_F 101 2 = some (.lushr, 1, 0, 0, .null, .int) := by decide +kernel
theorem jF_101_3 : j_F 101 3 = some (.lconst 1, 1, 0, 0, .null, .int) := by decide +kernel
theorem jF_101_4 : j_F 101 4 = some (.land, 1, 0, 0, .null, .int) := by decide +kernel
theorem jF_101_5 : j_F 101 5 = some (.lconst 0, 1, 0, 0, .null, .int) := by decide +kernel
theorem jF_101_6 : j_F 101 6 = some (.lcmp, 1, 0, 0, .null, .int) := by decide +kernel
theorem jF_101_7 : j_F 101 7 = some (.ifCond .eq 7, 3, 14, 0, .null, .int) := by decide +kernel
theorem jF_101_14 : j_F 101 14 = some (.iconst 0, 1, 0, 0, .null, .int) := by decide +kernel
theorem jF_101_15 : j_F 101 15 = some (.ireturn, 1, 0, 0, .null, .boolean) := by decide +kernel
theorem jF_102_0 : j_F 102 0 = some (.aload_n 0, 1, 0, 0, .null, .int) := by decide +kernel
theorem jF_102_1 : j_F 102 1 = some (.getfield 42, 3, 11, 4, .null, (.object "HundredWords$Tongue")) := by decide +kernel
theorem jF_102_4 : j_F 102 4 = some (.iload_n 1, 1, 0, 0, .null, .int) := by decide +kernel
theorem jF_102_5 : j_F 102 5 = some (.invokevirtual 187, 3, 100, 2, .null, .int) := by decide +kernel
theorem jF_102_8 : j_F 102 8 = some (.ifCond .eq 15, 3, 23, 0, .null, .int) := by decide +kernel
theorem jF_102_23 : j_F 102 23 = some (.iconst (-1), 1, 0, 0, .null, .int) := by decide +kernel
theorem jF_102_24 : j_F 102 24 = some (.ireturn, 1, 0, 0, .null, .int) := by decide +kernel
theorem jF_104_0 : j_F 104 0 = some (.aload_n 0, 1, 0, 0, .null, .int) := by decide +kernel
theorem jF_104_1 : j_F 104 1 = some (.getfield 42, 3, 11, 4, .null, (.object "HundredWords$Tongue")) := by decide +kernel
theorem jF_104_4 : j_F 104 4 = some (.iload_n 1, 1, 0, 0, .null, .int) := by decide +kernel
theorem jF_104_5 : j_F 104 5 = some (.invokevirtual 187, 3, 100, 2, .null, .int) := by decide +kernel
theorem jF_104_8 : j_F 104 8 = some (.ifCond .eq 21, 3, 29, 0, .null, .int) := by decide +kernel
theorem jF_104_29 : j_F 104 29 = some (.iconst (-1), 1, 0, 0, .null, .int) := by decide +kernel
theorem jF_104_30 : j_F 104 30 = some (.ireturn, 1, 0, 0, .null, .int) := by decide +kernel
theorem jF_113_0 : j_F 113 0 = some (.iload_n 1, 1, 0, 0, .null, .int) := by decide +kernel
theorem jF_113_1 : j_F 113 1 = some (.ifCond .lt 36, 3, 37, 0, .null, .int) := by decide +kernel
theorem jF_113_4 : j_F 113 4 = some (.iload_n 1, 1, 0, 0, .null, .int) := by decide +kernel
theorem jF_113_5 : j_F 113 5 = some (.aload_n 0, 1, 0, 0, .null, .int) := by decide +kernel
theorem jF_113_6 : j_F 113 6 = some (.getfield 52, 3, 11, 6, .null, (.object "HundredWords$Row")) := by decide +kernel
theorem jF_113_9 : j_F 113 9 = some (.getfield 165, 3, 4, 1, .null, .int) := by decide +kernel
theorem jF_113_12 : j_F 113 12 = some (.if_icmp .ge 25, 3, 37, 0, .null, .int) := by decide +kernel
theorem jF_113_37 : j_F 113 37 = some (.iconst (-1), 1, 0, 0, .null, .int) := by decide +kernel
theorem jF_113_38 : j_F 113 38 = some (.ireturn, 1, 0, 0, .null, .int) := by decide +kernel
theorem jF_114_0 : j_F 114 0 = some (.aload_n 0, 1, 0, 0, .null, .int) := by decide +kernel
theorem jF_114_1 : j_F 114 1 = some (.iload_n 1, 1, 0, 0, .null, .int) := by decide +kernel
theorem jF_114_2 : j_F 114 2 = some (.iload_n 2, 1, 0, 0, .null, .int) := by decide +kernel
theorem jF_114_3 : j_F 114 3 = some (.invokevirtual 202, 3, 115, 3, .null, .int) := by decide +kernel
theorem jF_114_6 : j_F 114 6 = some (.ifCond .eq 19, 3, 25, 0, .null, .int) := by decide +kernel
theorem jF_114_25 : j_F 114 25 = some (.aload_n 0, 1, 0, 0, .null, .int) := by decide +kernel
theorem jF_114_26 : j_F 114 26 = some (.iconst 2, 1, 0, 0, .null, .int) := by decide +kernel
theorem jF_114_27 : j_F 114 27 = some (.invokevirtual 105, 3, 25, 2, .null, .int) := by decide +kernel
theorem jF_114_30 : j_F 114 30 = some (.ireturn, 1, 0, 0, .null, .int) := by decide +kernel
theorem jF_115_0 : j_F 115 0 = some (.iload_n 1, 1, 0, 0, .null, .int) := by decide +kernel
theorem jF_115_1 : j_F 115 1 = some (.ifCond .lt 28, 3, 29, 0, .null, .int) := by decide +kernel
theorem jF_115_4 : j_F 115 4 = some (.iload_n 1, 1, 0, 0, .null, .int) := by decide +kernel
theorem jF_115_5 : j_F 115 5 = some (.aload_n 0, 1, 0, 0, .null, .int) := by decide +kernel
theorem jF_115_6 : j_F 115 6 = some (.getfield 52, 3, 11, 6, .null, (.object "HundredWords$Row")) := by decide +kernel
theorem jF_115_9 : j_F 115 9 = some (.getfield 165, 3, 4, 1, .null, .int) := by decide +kernel
theorem jF_115_12 : j_F 115 12 = some (.if_icmp .gt 17, 3, 29, 0, .null, .int) := by decide +kernel
theorem jF_115_15 : j_F 115 15 = some (.iload_n 2, 1, 0, 0, .null, .int) := by decide +kernel
theorem jF_115_16 : j_F 115 16 = some (.ifCond .lt 13, 3, 29, 0, .null, .int) := by decide +kernel
theorem jF_115_19 : j_F 115 19 = some (.iload_n 2, 1, 0, 0, .null, .int) := by decide +kernel
theorem jF_115_20 : j_F 115 20 = some (.bipush 23, 2, 0, 0, .null, .int) := by decide +kernel
theorem jF_115_22 : j_F 115 22 = some (.if_icmp .ge 7, 3, 29, 0, .null, .int) := by decide +kernel
theorem jF_115_29 : j_F 115 29 = some (.iconst 0, 1, 0, 0, .null, .int) := by decide +kernel
theorem jF_115_30 : j_F 115 30 = some (.ireturn, 1, 0, 0, .null, .boolean) := by decide +kernel
theorem jF_118_0 : j_F 118 0 = some (.aload_n 0, 1, 0, 0, .null, .int) := by decide +kernel
theorem jF_118_1 : j_F 118 1 = some (.iload_n 1, 1, 0, 0, .null, .int) := by decide +kernel
theorem jF_118_2 : j_F 118 2 = some (.iconst 0, 1, 0, 0, .null, .int) := by decide +kernel
theorem jF_118_3 : j_F 118 3 = some (.invokevirtual 202, 3, 115, 3, .null, .int) := by decide +kernel
theorem jF_118_6 : j_F 118 6 = some (.ifCond .eq 14, 3, 20, 0, .null, .int) := by decide +kernel
theorem jF_118_20 : j_F 118 20 = some (.aload_n 0, 1, 0, 0, .null, .int) := by decide +kernel
theorem jF_118_21 : j_F 118 21 = some (.iconst 2, 1, 0, 0, .null, .int) := by decide +kernel
theorem jF_118_22 : j_F 118 22 = some (.invokevirtual 105, 3, 25, 2, .null, .int) := by decide +kernel
theorem jF_118_25 : j_F 118 25 = some (.ireturn, 1, 0, 0, .null, .int) := by decide +kernel
theorem jF_119_0 : j_F 119 0 = some (.aload_n 0, 1, 0, 0, .null, .int) := by decide +kernel
theorem jF_119_1 : j_F 119 1 = some (.iload_n 1, 1, 0, 0, .null, .int) := by decide +kernel
theorem jF_119_2 : j_F 119 2 = some (.iload_n 2, 1, 0, 0, .null, .int) := by decide +kernel
theorem jF_119_3 : j_F 119 3 = some (.invokevirtual 202, 3, 115, 3, .null, .int) := by decide +kernel
theorem jF_119_6 : j_F 119 6 = some (.ifCond .eq 18, 3, 24, 0, .null, .int) := by decide +kernel
theorem jF_119_24 : j_F 119 24 = some (.aload_n 0, 1, 0, 0, .null, .int) := by decide +kernel
theorem jF_119_25 : j_F 119 25 = some (.iconst 2, 1, 0, 0, .null, .int) := by decide +kernel
theorem jF_119_26 : j_F 119 26 = some (.invokevirtual 105, 3, 25, 2, .null, .int) := by decide +kernel
theorem jF_119_29 : j_F 119 29 = some (.ireturn, 1, 0, 0, .null, .int) := by decide +kernel
theorem jF_122_0 : j_F 122 0 = some (.iload_n 1, 1, 0, 0, .null, .int) := by decide +kernel
theorem jF_122_1 : j_F 122 1 = some (.tableswitch 51 0 2 #[27, 36, 43], 27, 0, 0, .null, .int) := by decide +kernel
theorem jF_122_52 : j_F 122 52 = some (.iconst (-1), 1, 0, 0, .null, .int) := by decide +kernel
theorem jF_122_53 : j_F 122 53 = some (.ireturn, 1, 0, 0, .null, .int) := by decide +kernel
theorem jF_124_0 : j_F 124 0 = some (.iload_n 1, 1, 0, 0, .null, .int) := by decide +kernel
theorem jF_124_1 : j_F 124 1 = some (.ifCond .eq 10, 3, 11, 0, .null, .int) := by decide +kernel
theorem jF_124_4 : j_F 124 4 = some (.aload_n 0, 1, 0, 0, .null, .int) := by decide +kernel
theorem jF_124_5 : j_F 124 5 = some (.getfield 56, 3, 11, 7, .null, (.object "HundredWords$Row")) := by decide +kernel
theorem jF_124_8 : j_F 124 8 = some (.goto 7, 3, 15, 0, .null, .int) := by decide +kernel
theorem jF_124_11 : j_F 124 11 = some (.aload_n 0, 1, 0, 0, .null, .int) := by decide +kernel
theorem jF_124_12 : j_F 124 12 = some (.getfield 52, 3, 11, 6, .null, (.object "HundredWords$Row")) := by decide +kernel
theorem jF_124_15 : j_F 124 15 = some (.astore_n 3, 1, 0, 0, .null, .int) := by decide +kernel
theorem jF_124_16 : j_F 124 16 = some (.aload_n 0, 1, 0, 0, .null, .int) := by decide +kernel
theorem jF_124_17 : j_F 124 17 = some (.getfield 75, 3, 11, 11, .null, (.object "HundredWords$Shorts")) := by decide +kernel
theorem jF_124_20 : j_F 124 20 = some (.aload_n 0, 1, 0, 0, .null, .int) := by decide +kernel
theorem jF_124_21 : j_F 124 21 = some (.getfield 42, 3, 11, 4, .null, (.object "HundredWords$Tongue")) := by decide +kernel
theorem jF_124_24 : j_F 124 24 = some (.aload_n 3, 1, 0, 0, .null, .int) := by decide +kernel
theorem jF_124_25 : j_F 124 25 = some (.getfield 138, 3, 4, 7, .null, .long) := by decide +kernel
theorem jF_124_28 : j_F 124 28 = some (.iload_n 1, 1, 0, 0, .null, .int) := by decide +kernel
theorem jF_124_29 : j_F 124 29 = some (.invokestatic 183, 3, 98, 1, .null, .int) := by decide +kernel
theorem jF_124_32 : j_F 124 32 = some (.iload_n 2, 1, 0, 0, .null, .int) := by decide +kernel
theorem jF_124_33 : j_F 124 33 = some (.invokevirtual 215, 3, 125, 5, .null, .int) := by decide +kernel
theorem jF_124_36 : j_F 124 36 = some (.ireturn, 1, 0, 0, .null, .int) := by decide +kernel
theorem jF_125_0 : j_F 125 0 = some (.iload 5, 2, 0, 0, .null, .int) := by decide +kernel
theorem jF_125_2 : j_F 125 2 = some (.ifCond .lt 24, 3, 26, 0, .null, .int) := by decide +kernel
theorem jF_125_5 : j_F 125 5 = some (.iload 5, 2, 0, 0, .null, .int) := by decide +kernel
theorem jF_125_7 : j_F 125 7 = some (.iconst 4, 1, 0, 0, .null, .int) := by decide +kernel
theorem jF_125_8 : j_F 125 8 = some (.if_icmp .ge 18, 3, 26, 0, .null, .int) := by decide +kernel
theorem jF_125_11 : j_F 125 11 = some (.iload 4, 2, 0, 0, .null, .int) := by decide +kernel
theorem jF_125_13 : j_F 125 13 = some (.ifCond .lt 13, 3, 26, 0, .null, .int) := by decide +kernel
theorem jF_125_16 : j_F 125 16 = some (.iload 4, 2, 0, 0, .null, .int) := by decide +kernel
theorem jF_125_18 : j_F 125 18 = some (.aload_n 0, 1, 0, 0, .null, .int) := by decide +kernel
theorem jF_125_19 : j_F 125 19 = some (.getfield 28, 3, 5, 5, .null, (.array .long)) := by decide +kernel
theorem jF_125_22 : j_F 125 22 = some (.arraylength, 1, 0, 0, .null, .int) := by decide +kernel
theorem jF_125_23 : j_F 125 23 = some (.if_icmp .lt 5, 3, 28, 0, .null, .int) := by decide +kernel
theorem jF_125_26 : j_F 125 26 = some (.iconst (-1), 1, 0, 0, .null, .int) := by decide +kernel
theorem jF_125_27 : j_F 125 27 = some (.ireturn, 1, 0, 0, .null, .int) := by decide +kernel
theorem jF_125_28 : j_F 125 28 = some (.iload 4, 2, 0, 0, .null, .int) := by decide +kernel
theorem jF_125_30 : j_F 125 30 = some (.iconst 4, 1, 0, 0, .null, .int) := by decide +kernel
theorem jF_125_31 : j_F 125 31 = some (.imul, 1, 0, 0, .null, .int) := by decide +kernel
theorem jF_125_32 : j_F 125 32 = some (.istore 6, 2, 0, 0, .null, .int) := by decide +kernel
theorem jF_125_34 : j_F 125 34 = some (.aload_n 0, 1, 0, 0, .null, .int) := by decide +kernel
theorem jF_125_35 : j_F 125 35 = some (.getfield 31, 3, 5, 6, .null, (.array .boolean)) := by decide +kernel
theorem jF_125_38 : j_F 125 38 = some (.iload 4, 2, 0, 0, .null, .int) := by decide +kernel
theorem jF_125_40 : j_F 125 40 = some (.baload, 1, 0, 0, .null, .int) := by decide +kernel
theorem jF_125_41 : j_F 125 41 = some (.ifCond .eq 15, 3, 56, 0, .null, .int) := by decide +kernel
theorem jF_125_56 : j_F 125 56 = some (.aload_n 0, 1, 0, 0, .null, .int) := by decide +kernel
theorem jF_125_57 : j_F 125 57 = some (.aload_n 1, 1, 0, 0, .null, .int) := by decide +kernel
theorem jF_125_58 : j_F 125 58 = some (.invokevirtual 42, 3, 126, 2, .null, .int) := by decide +kernel
theorem jF_125_61 : j_F 125 61 = some (.aload_n 0, 1, 0, 0, .null, .int) := by decide +kernel
theorem jF_125_62 : j_F 125 62 = some (.lload_n 2, 1, 0, 0, .null, .int) := by decide +kernel
theorem jF_125_63 : j_F 125 63 = some (.iload 6, 2, 0, 0, .null, .int) := by decide +kernel
theorem jF_125_65 : j_F 125 65 = some (.invokevirtual 86, 3, 133, 3, .null, .int) := by decide +kernel
theorem jF_125_68 : j_F 125 68 = some (.aload_n 0, 1, 0, 0, .null, .int) := by decide +kernel
theorem jF_125_69 : j_F 125 69 = some (.getfield 28, 3, 5, 5, .null, (.array .long)) := by decide +kernel
theorem jF_125_72 : j_F 125 72 = some (.iload 4, 2, 0, 0, .null, .int) := by decide +kernel
theorem jF_125_74 : j_F 125 74 = some (.lload_n 2, 1, 0, 0, .null, .int) := by decide +kernel
theorem jF_125_75 : j_F 125 75 = some (.lastore, 1, 0, 0, .null, .int) := by decide +kernel
theorem jF_125_76 : j_F 125 76 = some (.aload_n 0, 1, 0, 0, .null, .int) := by decide +kernel
theorem jF_125_77 : j_F 125 77 = some (.getfield 31, 3, 5, 6, .null, (.array .boolean)) := by decide +kernel
theorem jF_125_80 : j_F 125 80 = some (.iload 4, 2, 0, 0, .null, .int) := by decide +kernel
theorem jF_125_82 : j_F 125 82 = some (.iconst 1, 1, 0, 0, .null, .int) := by decide +kernel
theorem jF_125_83 : j_F 125 83 = some (.bastore, 1, 0, 0, .null, .int) := by decide +kernel
theorem jF_125_84 : j_F 125 84 = some (.aload_n 0, 1, 0, 0, .null, .int) := by decide +kernel
theorem jF_125_85 : j_F 125 85 = some (.getfield 35, 3, 5, 7, .null, (.array .int)) := by decide +kernel
theorem jF_125_88 : j_F 125 88 = some (.iload 6, 2, 0, 0, .null, .int) := by decide +kernel
theorem jF_125_90 : j_F 125 90 = some (.iload 5, 2, 0, 0, .null, .int) := by decide +kernel
theorem jF_125_92 : j_F 125 92 = some (.iadd, 1, 0, 0, .null, .int) := by decide +kernel
theorem jF_125_93 : j_F 125 93 = some (.iaload, 1, 0, 0, .null, .int) := by decide +kernel
theorem jF_125_94 : j_F 125 94 = some (.ireturn, 1, 0, 0, .null, .int) := by decide +kernel
theorem jF_126_0 : j_F 126 0 = some (.aload_n 0, 1, 0, 0, .null, .int) := by decide +kernel
theorem jF_126_1 : j_F 126 1 = some (.getfield 38, 3, 5, 14, .null, .boolean) := by decide +kernel
theorem jF_126_4 : j_F 126 4 = some (.ifCond .eq 4, 3, 8, 0, .null, .int) := by decide +kernel
theorem jF_126_8 : j_F 126 8 = some (.aload_n 0, 1, 0, 0, .null, .int) := by decide +kernel
theorem jF_126_9 : j_F 126 9 = some (.iconst 1, 1, 0, 0, .null, .int) := by decide +kernel
theorem jF_126_10 : j_F 126 10 = some (.putfield 38, 3, 5, 14, .null, .boolean) := by decide +kernel
theorem jF_126_13 : j_F 126 13 = some (.aload_n 0, 1, 0, 0, .null, .int) := by decide +kernel
theorem jF_126_14 : j_F 126 14 = some (.aload_n 1, 1, 0, 0, .null, .int) := by decide +kernel
theorem jF_126_15 : j_F 126 15 = some (.invokevirtual 90, 3, 127, 2, .null, .int) := by decide +kernel
theorem jF_126_18 : j_F 126 18 = some (.aload_n 0, 1, 0, 0, .null, .int) := by decide +kernel
theorem jF_126_19 : j_F 126 19 = some (.invokevirtual 93, 3, 128, 1, .null, .int) := by decide +kernel
theorem jF_126_22 : j_F 126 22 = some (.aload_n 0, 1, 0, 0, .null, .int) := by decide +kernel
theorem jF_126_23 : j_F 126 23 = some (.invokevirtual 96, 3, 129, 1, .null, .int) := by decide +kernel
theorem jF_126_26 : j_F 126 26 = some (.aload_n 0, 1, 0, 0, .null, .int) := by decide +kernel
theorem jF_126_27 : j_F 126 27 = some (.aload_n 1, 1, 0, 0, .null, .int) := by decide +kernel
theorem jF_126_28 : j_F 126 28 = some (.invokevirtual 99, 3, 132, 2, .null, .int) := by decide +kernel
theorem jF_126_31 : j_F 126 31 = some (.return_, 1, 0, 0, .null, .int) := by decide +kernel
theorem jF_129_0 : j_F 129 0 = some (.aload_n 0, 1, 0, 0, .null, .int) := by decide +kernel
theorem jF_129_1 : j_F 129 1 = some (.getfield 22, 3, 5, 3, .null, (.array .int)) := by decide +kernel
theorem jF_129_4 : j_F 129 4 = some (.iconst 0, 1, 0, 0, .null, .int) := by decide +kernel
theorem jF_129_5 : j_F 129 5 = some (.invokestatic 117, 3, 31, 2, .null, .int) := by decide +kernel
theorem jF_129_8 : j_F 129 8 = some (.aload_n 0, 1, 0, 0, .null, .int) := by decide +kernel
theorem jF_129_9 : j_F 129 9 = some (.iconst 0, 1, 0, 0, .null, .int) := by decide +kernel
theorem jF_129_10 : j_F 129 10 = some (.putfield 123, 3, 5, 10, .null, .int) := by decide +kernel
theorem jF_129_13 : j_F 129 13 = some (.iconst 0, 1, 0, 0, .null, .int) := by decide +kernel
theorem jF_129_14 : j_F 129 14 = some (.istore_n 1, 1, 0, 0, .null, .int) := by decide +kernel
theorem jF_129_15 : j_F 129 15 = some (.iload_n 1, 1, 0, 0, .null, .int) := by decide +kernel
theorem jF_129_16 : j_F 129 16 = some (.aload_n 0, 1, 0, 0, .null, .int) := by decide +kernel
theorem jF_129_17 : j_F 129 17 = some (.getfield 46, 3, 5, 9, .null, .int) := by decide +kernel
theorem jF_129_20 : j_F 129 20 = some (.if_icmp .ge 91, 3, 111, 0, .null, .int) := by decide +kernel
theorem jF_129_111 : j_F 129 111 = some (.return_, 1, 0, 0, .null, .int) := by decide +kernel
theorem jF_140_0 : j_F 140 0 = some (.aload_n 0, 1, 0, 0, .null, .int) := by decide +kernel
theorem jF_140_1 : j_F 140 1 = some (.getfield 75, 3, 11, 11, .null, (.object "HundredWords$Shorts")) := by decide +kernel
theorem jF_140_4 : j_F 140 4 = some (.aload_n 0, 1, 0, 0, .null, .int) := by decide +kernel
theorem jF_140_5 : j_F 140 5 = some (.getfield 42, 3, 11, 4, .null, (.object "HundredWords$Tongue")) := by decide +kernel
theorem jF_140_8 : j_F 140 8 = some (.invokevirtual 219, 3, 141, 2, .null, .int) := by decide +kernel
theorem jF_140_11 : j_F 140 11 = some (.ireturn, 1, 0, 0, .null, .int) := by decide +kernel
theorem jF_141_0 : j_F 141 0 = some (.aload_n 0, 1, 0, 0, .null, .int) := by decide +kernel
theorem jF_141_1 : j_F 141 1 = some (.aload_n 1, 1, 0, 0, .null, .int) := by decide +kernel
theorem jF_141_2 : j_F 141 2 = some (.invokevirtual 42, 3, 126, 2, .null, .int) := by decide +kernel
theorem jF_141_5 : j_F 141 5 = some (.aload_n 0, 1, 0, 0, .null, .int) := by decide +kernel
theorem jF_141_6 : j_F 141 6 = some (.getfield 46, 3, 5, 9, .null, .int) := by decide +kernel
theorem jF_141_9 : j_F 141 9 = some (.ireturn, 1, 0, 0, .null, .int) := by decide +kernel
theorem jF_142_0 : j_F 142 0 = some (.aload_n 0, 1, 0, 0, .null, .int) := by decide +kernel
theorem jF_142_1 : j_F 142 1 = some (.getfield 75, 3, 11, 11, .null, (.object "HundredWords$Shorts")) := by decide +kernel
theorem jF_142_4 : j_F 142 4 = some (.aload_n 0, 1, 0, 0, .null, .int) := by decide +kernel
theorem jF_142_5 : j_F 142 5 = some (.getfield 42, 3, 11, 4, .null, (.object "HundredWords$Tongue")) := by decide +kernel
theorem jF_142_8 : j_F 142 8 = some (.iload_n 1, 1, 0, 0, .null, .int) := by decide +kernel
theorem jF_142_9 : j_F 142 9 = some (.iload_n 2, 1, 0, 0, .null, .int) := by decide +kernel
theorem jF_142_10 : j_F 142 10 = some (.invokevirtual 222, 3, 143, 4, .null, .int) := by decide +kernel
theorem jF_142_13 : j_F 142 13 = some (.ireturn, 1, 0, 0, .null, .int) := by decide +kernel
theorem jF_143_0 : j_F 143 0 = some (.aload_n 0, 1, 0, 0, .null, .int) := by decide +kernel
theorem jF_143_1 : j_F 143 1 = some (.aload_n 1, 1, 0, 0, .null, .int) := by decide +kernel
theorem jF_143_2 : j_F 143 2 = some (.invokevirtual 42, 3, 126, 2, .null, .int) := by decide +kernel
theorem jF_143_5 : j_F 143 5 = some (.iload_n 2, 1, 0, 0, .null, .int) := by decide +kernel
theorem jF_143_6 : j_F 143 6 = some (.ifCond .lt 11, 3, 17, 0, .null, .int) := by decide +kernel
theorem jF_143_9 : j_F 143 9 = some (.iload_n 2, 1, 0, 0, .null, .int) := by decide +kernel
theorem jF_143_10 : j_F 143 10 = some (.aload_n 0, 1, 0, 0, .null, .int) := by decide +kernel
theorem jF_143_11 : j_F 143 11 = some (.getfield 46, 3, 5, 9, .null, .int) := by decide +kernel
theorem jF_143_14 : j_F 143 14 = some (.if_icmp .lt 5, 3, 19, 0, .null, .int) := by decide +kernel
theorem jF_143_17 : j_F 143 17 = some (.iconst (-1), 1, 0, 0, .null, .int) := by decide +kernel
theorem jF_143_18 : j_F 143 18 = some (.ireturn, 1, 0, 0, .null, .int) := by decide +kernel
theorem jF_151_0 : j_F 151 0 = some (.iload_n 1, 1, 0, 0, .null, .int) := by decide +kernel
theorem jF_151_1 : j_F 151 1 = some (.ifCond .eq 25, 3, 26, 0, .null, .int) := by decide +kernel
theorem jF_151_4 : j_F 151 4 = some (.aload_n 0, 1, 0, 0, .null, .int) := by decide +kernel
theorem jF_151_5 : j_F 151 5 = some (.getfield 56, 3, 11, 7, .null, (.object "HundredWords$Row")) := by decide +kernel
theorem jF_151_8 : j_F 151 8 = some (.getfield 138, 3, 4, 7, .null, .long) := by decide +kernel
theorem jF_151_11 : j_F 151 11 = some (.aload_n 0, 1, 0, 0, .null, .int) := by decide +kernel
theorem jF_151_12 : j_F 151 12 = some (.getfield 52, 3, 11, 6, .null, (.object "HundredWords$Row")) := by decide +kernel
theorem jF_151_15 : j_F 151 15 = some (.getfield 138, 3, 4, 7, .null, .long) := by decide +kernel
theorem jF_151_18 : j_F 151 18 = some (.ldc2_w 230, 3, 0, 0, (.long (-1)), .int) := by decide +kernel
theorem jF_151_21 : j_F 151 21 = some (.lxor, 1, 0, 0, .null, .int) := by decide +kernel
theorem jF_151_22 : j_F 151 22 = some (.land, 1, 0, 0, .null, .int) := by decide +kernel
theorem jF_151_23 : j_F 151 23 = some (.goto 22, 3, 45, 0, .null, .int) := by decide +kernel
theorem jF_151_26 : j_F 151 26 = some (.aload_n 0, 1, 0, 0, .null, .int) := by decide +kernel
theorem jF_151_27 : j_F 151 27 = some (.getfield 52, 3, 11, 6, .null, (.object "HundredWords$Row")) := by decide +kernel
theorem jF_151_30 : j_F 151 30 = some (.getfield 138, 3, 4, 7, .null, .long) := by decide +kernel
theorem jF_151_33 : j_F 151 33 = some (.aload_n 0, 1, 0, 0, .null, .int) := by decide +kernel
theorem jF_151_34 : j_F 151 34 = some (.getfield 56, 3, 11, 7, .null, (.object "HundredWords$Row")) := by decide +kernel
theorem jF_151_37 : j_F 151 37 = some (.getfield 138, 3, 4, 7, .null, .long) := by decide +kernel
theorem jF_151_40 : j_F 151 40 = some (.ldc2_w 230, 3, 0, 0, (.long (-1)), .int) := by decide +kernel
theorem jF_151_43 : j_F 151 43 = some (.lxor, 1, 0, 0, .null, .int) := by decide +kernel
theorem jF_151_44 : j_F 151 44 = some (.land, 1, 0, 0, .null, .int) := by decide +kernel
theorem jF_151_45 : j_F 151 45 = some (.lstore_n 3, 1, 0, 0, .null, .int) := by decide +kernel
theorem jF_151_46 : j_F 151 46 = some (.lload_n 3, 1, 0, 0, .null, .int) := by decide +kernel
theorem jF_151_47 : j_F 151 47 = some (.iload_n 2, 1, 0, 0, .null, .int) := by decide +kernel
theorem jF_151_48 : j_F 151 48 = some (.invokestatic 232, 3, 152, 2, .null, .int) := by decide +kernel
theorem jF_151_51 : j_F 151 51 = some (.ireturn, 1, 0, 0, .null, .int) := by decide +kernel
theorem jF_152_0 : j_F 152 0 = some (.iconst 0, 1, 0, 0, .null, .int) := by decide +kernel
theorem jF_152_1 : j_F 152 1 = some (.istore_n 3, 1, 0, 0, .null, .int) := by decide +kernel
theorem jF_152_2 : j_F 152 2 = some (.iconst 0, 1, 0, 0, .null, .int) := by decide +kernel
theorem jF_152_3 : j_F 152 3 = some (.istore 4, 2, 0, 0, .null, .int) := by decide +kernel
theorem jF_152_5 : j_F 152 5 = some (.iload 4, 2, 0, 0, .null, .int) := by decide +kernel
theorem jF_152_7 : j_F 152 7 = some (.bipush 64, 2, 0, 0, .null, .int) := by decide +kernel
theorem jF_152_9 : j_F 152 9 = some (.if_icmp .ge 29, 3, 38, 0, .null, .int) := by decide +kernel
theorem jF_152_12 : j_F 152 12 = some (.lload_n 0, 1, 0, 0, .null, .int) := by decide +kernel
theorem jF_152_13 : j_F 152 13 = some (.iload 4, 2, 0, 0, .null, .int) := by decide +kernel
theorem jF_152_15 : j_F 152 15 = some (.invokestatic 191, 3, 101, 2, .null, .int) := by decide +kernel
theorem jF_152_18 : j_F 152 18 = some (.ifCond .eq 14, 3, 32, 0, .null, .int) := by decide +kernel
theorem jF_152_32 : j_F 152 32 = some (.iinc 4 1, 3, 0, 0, .null, .int) := by decide +kernel
theorem jF_152_35 : j_F 152 35 = some (.goto (-30), 3, 5, 0, .null, .int) := by decide +kernel
theorem jF_152_38 : j_F 152 38 = some (.iconst (-1), 1, 0, 0, .null, .int) := by decide +kernel
theorem jF_152_39 : j_F 152 39 = some (.ireturn, 1, 0, 0, .null, .int) := by decide +kernel
theorem jF_154_0 : j_F 154 0 = some (.iload_n 1, 1, 0, 0, .null, .int) := by decide +kernel
theorem jF_154_1 : j_F 154 1 = some (.ifCond .eq 10, 3, 11, 0, .null, .int) := by decide +kernel
theorem jF_154_4 : j_F 154 4 = some (.aload_n 0, 1, 0, 0, .null, .int) := by decide +kernel
theorem jF_154_5 : j_F 154 5 = some (.getfield 56, 3, 11, 7, .null, (.object "HundredWords$Row")) := by decide +kernel
theorem jF_154_8 : j_F 154 8 = some (.goto 7, 3, 15, 0, .null, .int) := by decide +kernel
theorem jF_154_11 : j_F 154 11 = some (.aload_n 0, 1, 0, 0, .null, .int) := by decide +kernel
theorem jF_154_12 : j_F 154 12 = some (.getfield 52, 3, 11, 6, .null, (.object "HundredWords$Row")) := by decide +kernel
theorem jF_154_15 : j_F 154 15 = some (.astore_n 3, 1, 0, 0, .null, .int) := by decide +kernel
theorem jF_154_16 : j_F 154 16 = some (.aload_n 0, 1, 0, 0, .null, .int) := by decide +kernel
theorem jF_154_17 : j_F 154 17 = some (.getfield 42, 3, 11, 4, .null, (.object "HundredWords$Tongue")) := by decide +kernel
theorem jF_154_20 : j_F 154 20 = some (.iload_n 2, 1, 0, 0, .null, .int) := by decide +kernel
theorem jF_154_21 : j_F 154 21 = some (.aload_n 3, 1, 0, 0, .null, .int) := by decide +kernel
theorem jF_154_22 : j_F 154 22 = some (.getfield 138, 3, 4, 7, .null, .long) := by decide +kernel
theorem jF_154_25 : j_F 154 25 = some (.invokevirtual 236, 3, 155, 3, .null, .int) := by decide +kernel
theorem jF_154_28 : j_F 154 28 = some (.ireturn, 1, 0, 0, .null, .int) := by decide +kernel
theorem jF_155_0 : j_F 155 0 = some (.iload_n 1, 1, 0, 0, .null, .int) := by decide +kernel
theorem jF_155_1 : j_F 155 1 = some (.ifCond .lt 11, 3, 12, 0, .null, .int) := by decide +kernel
theorem jF_155_4 : j_F 155 4 = some (.iload_n 1, 1, 0, 0, .null, .int) := by decide +kernel
theorem jF_155_5 : j_F 155 5 = some (.aload_n 0, 1, 0, 0, .null, .int) := by decide +kernel
theorem jF_155_6 : j_F 155 6 = some (.getfield 65, 3, 8, 11, .null, .int) := by decide +kernel
theorem jF_155_9 : j_F 155 9 = some (.if_icmp .lt 5, 3, 14, 0, .null, .int) := by decide +kernel
theorem jF_155_12 : j_F 155 12 = some (.iconst (-1), 1, 0, 0, .null, .int) := by decide +kernel
theorem jF_155_13 : j_F 155 13 = some (.ireturn, 1, 0, 0, .null, .int) := by decide +kernel
theorem jF_163_0 : j_F 163 0 = some (.iload_n 1, 1, 0, 0, .null, .int) := by decide +kernel
theorem jF_163_1 : j_F 163 1 = some (.iconst 1, 1, 0, 0, .null, .int) := by decide +kernel
theorem jF_163_2 : j_F 163 2 = some (.if_icmp .lt 9, 3, 11, 0, .null, .int) := by decide +kernel
theorem jF_163_5 : j_F 163 5 = some (.iload_n 1, 1, 0, 0, .null, .int) := by decide +kernel
theorem jF_163_6 : j_F 163 6 = some (.bipush 20, 2, 0, 0, .null, .int) := by decide +kernel
theorem jF_163_8 : j_F 163 8 = some (.if_icmp .le 9, 3, 17, 0, .null, .int) := by decide +kernel
theorem jF_163_11 : j_F 163 11 = some (.aload_n 0, 1, 0, 0, .null, .int) := by decide +kernel
theorem jF_163_12 : j_F 163 12 = some (.iconst 2, 1, 0, 0, .null, .int) := by decide +kernel
theorem jF_163_13 : j_F 163 13 = some (.invokevirtual 105, 3, 25, 2, .null, .int) := by decide +kernel
theorem jF_163_16 : j_F 163 16 = some (.ireturn, 1, 0, 0, .null, .int) := by decide +kernel
theorem jF_163_17 : j_F 163 17 = some (.iconst 0, 1, 0, 0, .null, .int) := by decide +kernel
theorem jF_163_18 : j_F 163 18 = some (.istore_n 2, 1, 0, 0, .null, .int) := by decide +kernel
theorem jF_163_19 : j_F 163 19 = some (.iload_n 2, 1, 0, 0, .null, .int) := by decide +kernel
theorem jF_163_20 : j_F 163 20 = some (.iload_n 1, 1, 0, 0, .null, .int) := by decide +kernel
theorem jF_163_21 : j_F 163 21 = some (.if_icmp .ge 23, 3, 44, 0, .null, .int) := by decide +kernel
theorem jF_163_24 : j_F 163 24 = some (.aload_n 0, 1, 0, 0, .null, .int) := by decide +kernel
theorem jF_163_25 : j_F 163 25 = some (.invokevirtual 244, 3, 161, 1, .null, .int) := by decide +kernel
theorem jF_163_28 : j_F 163 28 = some (.ifCond .ne 5, 3, 33, 0, .null, .int) := by decide +kernel
theorem jF_163_31 : j_F 163 31 = some (.iload_n 2, 1, 0, 0, .null, .int) := by decide +kernel
theorem jF_163_32 : j_F 163 32 = some (.ireturn, 1, 0, 0, .null, .int) := by decide +kernel
theorem jF_164_0 : j_F 164 0 = some (.aload_n 0, 1, 0, 0, .null, .int) := by decide +kernel
theorem jF_164_1 : j_F 164 1 = some (.getfield 75, 3, 11, 11, .null, (.object "HundredWords$Shorts")) := by decide +kernel
theorem jF_164_4 : j_F 164 4 = some (.aload_n 0, 1, 0, 0, .null, .int) := by decide +kernel
theorem jF_164_5 : j_F 164 5 = some (.getfield 42, 3, 11, 4, .null, (.object "HundredWords$Tongue")) := by decide +kernel
theorem jF_164_8 : j_F 164 8 = some (.iload_n 1, 1, 0, 0, .null, .int) := by decide +kernel
theorem jF_164_9 : j_F 164 9 = some (.invokevirtual 248, 3, 165, 3, .null, .int) := by decide +kernel
theorem jF_164_12 : j_F 164 12 = some (.ireturn, 1, 0, 0, .null, .int) := by decide +kernel
theorem jF_165_0 : j_F 165 0 = some (.aload_n 0, 1, 0, 0, .null, .int) := by decide +kernel
theorem jF_165_1 : j_F 165 1 = some (.aload_n 1, 1, 0, 0, .null, .int) := by decide +kernel
theorem jF_165_2 : j_F 165 2 = some (.invokevirtual 42, 3, 126, 2, .null, .int) := by decide +kernel
theorem jF_165_5 : j_F 165 5 = some (.iload_n 2, 1, 0, 0, .null, .int) := by decide +kernel
theorem jF_165_6 : j_F 165 6 = some (.tableswitch 58 0 2 #[26, 31, 50], 26, 0, 0, .null, .int) := by decide +kernel
theorem jF_165_32 : j_F 165 32 = some (.aload_n 0, 1, 0, 0, .null, .int) := by decide +kernel
theorem jF_165_33 : j_F 165 33 = some (.getfield 76, 3, 5, 11, .null, .int) := by decide +kernel
theorem jF_165_36 : j_F 165 36 = some (.ireturn, 1, 0, 0, .null, .int) := by decide +kernel
theorem jF_165_37 : j_F 165 37 = some (.aload_n 0, 1, 0, 0, .null, .int) := by decide +kernel
theorem jF_165_38 : j_F 165 38 = some (.getfield 76, 3, 5, 11, .null, .int) := by decide +kernel
theorem jF_165_41 : j_F 165 41 = some (.ifCond .ne 7, 3, 48, 0, .null, .int) := by decide +kernel
theorem jF_165_44 : j_F 165 44 = some (.iconst 0, 1, 0, 0, .null, .int) := by decide +kernel
theorem jF_165_45 : j_F 165 45 = some (.goto 10, 3, 55, 0, .null, .int) := by decide +kernel
theorem jF_165_55 : j_F 165 55 = some (.ireturn, 1, 0, 0, .null, .int) := by decide +kernel
theorem jF_165_56 : j_F 165 56 = some (.aload_n 0, 1, 0, 0, .null, .int) := by decide +kernel
theorem jF_165_57 : j_F 165 57 = some (.getfield 83, 3, 5, 13, .null, .long) := by decide +kernel
theorem jF_165_60 : j_F 165 60 = some (.invokestatic 54, 3, 96, 1, .null, .int) := by decide +kernel
theorem jF_165_63 : j_F 165 63 = some (.ireturn, 1, 0, 0, .null, .int) := by decide +kernel
theorem jF_165_64 : j_F 165 64 = some (.iconst (-1), 1, 0, 0, .null, .int) := by decide +kernel
theorem jF_165_65 : j_F 165 65 = some (.ireturn, 1, 0, 0, .null, .int) := by decide +kernel
theorem jF_168_0 : j_F 168 0 = some (.iload_n 1, 1, 0, 0, .null, .int) := by decide +kernel
theorem jF_168_1 : j_F 168 1 = some (.ifCond .ge 11, 3, 12, 0, .null, .int) := by decide +kernel
theorem jF_168_4 : j_F 168 4 = some (.aload_n 0, 1, 0, 0, .null, .int) := by decide +kernel
theorem jF_168_5 : j_F 168 5 = some (.iconst 4, 1, 0, 0, .null, .int) := by decide +kernel
theorem jF_168_6 : j_F 168 6 = some (.invokevirtual 105, 3, 25, 2, .null, .int) := by decide +kernel
theorem jF_168_9 : j_F 168 9 = some (.pop, 1, 0, 0, .null, .int) := by decide +kernel
theorem jF_168_10 : j_F 168 10 = some (.iconst 0, 1, 0, 0, .null, .int) := by decide +kernel
theorem jF_168_11 : j_F 168 11 = some (.ireturn, 1, 0, 0, .null, .boolean) := by decide +kernel
theorem jF_168_12 : j_F 168 12 = some (.aload_n 0, 1, 0, 0, .null, .int) := by decide +kernel
theorem jF_168_13 : j_F 168 13 = some (.iload_n 1, 1, 0, 0, .null, .int) := by decide +kernel
theorem jF_168_14 : j_F 168 14 = some (.i2l, 1, 0, 0, .null, .int) := by decide +kernel
theorem jF_168_15 : j_F 168 15 = some (.putfield 97, 3, 11, 15, .null, .long) := by decide +kernel
theorem jF_168_18 : j_F 168 18 = some (.iconst 1, 1, 0, 0, .null, .int) := by decide +kernel
theorem jF_168_19 : j_F 168 19 = some (.ireturn, 1, 0, 0, .null, .boolean) := by decide +kernel
theorem jF_205_0 : j_F 205 0 = some (.iload_n 1, 1, 0, 0, .null, .int) := by decide +kernel
theorem jF_205_1 : j_F 205 1 = some (.ifCond .lt 26, 3, 27, 0, .null, .int) := by decide +kernel
theorem jF_205_4 : j_F 205 4 = some (.iload_n 1, 1, 0, 0, .null, .int) := by decide +kernel
theorem jF_205_5 : j_F 205 5 = some (.aload_n 0, 1, 0, 0, .null, .int) := by decide +kernel
theorem jF_205_6 : j_F 205 6 = some (.getfield 89, 3, 11, 13, .null, (.object "HundredWords$Image")) := by decide +kernel
theorem jF_205_9 : j_F 205 9 = some (.getfield 279, 3, 1, 1, .null, .int) := by decide +kernel
theorem jF_205_12 : j_F 205 12 = some (.if_icmp .ge 15, 3, 27, 0, .null, .int) := by decide +kernel
theorem jF_205_27 : j_F 205 27 = some (.iconst (-1), 1, 0, 0, .null, .int) := by decide +kernel
theorem jF_205_28 : j_F 205 28 = some (.ireturn, 1, 0, 0, .null, .int) := by decide +kernel
theorem jF_210_0 : j_F 210 0 = some (.iload_n 1, 1, 0, 0, .null, .int) := by decide +kernel
theorem jF_210_1 : j_F 210 1 = some (.ifCond .lt 21, 3, 22, 0, .null, .int) := by decide +kernel
theorem jF_210_4 : j_F 210 4 = some (.iload_n 1, 1, 0, 0, .null, .int) := by decide +kernel
theorem jF_210_5 : j_F 210 5 = some (.aload_n 0, 1, 0, 0, .null, .int) := by decide +kernel
theorem jF_210_6 : j_F 210 6 = some (.getfield 93, 3, 11, 14, .null, (.array .int)) := by decide +kernel
theorem jF_210_9 : j_F 210 9 = some (.arraylength, 1, 0, 0, .null, .int) := by decide +kernel
theorem jF_210_10 : j_F 210 10 = some (.if_icmp .ge 12, 3, 22, 0, .null, .int) := by decide +kernel
theorem jF_210_22 : j_F 210 22 = some (.iconst (-1), 1, 0, 0, .null, .int) := by decide +kernel
theorem jF_210_23 : j_F 210 23 = some (.ireturn, 1, 0, 0, .null, .int) := by decide +kernel
theorem jF_212_0 : j_F 212 0 = some (.aload_n 0, 1, 0, 0, .null, .int) := by decide +kernel
theorem jF_212_1 : j_F 212 1 = some (.getfield 209, 3, 12, 1, .null, .int) := by decide +kernel
theorem jF_212_4 : j_F 212 4 = some (.bipush 20, 2, 0, 0, .null, .int) := by decide +kernel
theorem jF_212_6 : j_F 212 6 = some (.iadd, 1, 0, 0, .null, .int) := by decide +kernel
theorem jF_212_7 : j_F 212 7 = some (.sipush 1600, 3, 0, 0, .null, .int) := by decide +kernel
theorem jF_212_10 : j_F 212 10 = some (.if_icmp .le 15, 3, 25, 0, .null, .int) := by decide +kernel
theorem jF_212_25 : j_F 212 25 = some (.iconst 0, 1, 0, 0, .null, .int) := by decide +kernel
theorem jF_212_26 : j_F 212 26 = some (.istore 6, 2, 0, 0, .null, .int) := by decide +kernel
theorem jF_212_28 : j_F 212 28 = some (.iload 6, 2, 0, 0, .null, .int) := by decide +kernel
theorem jF_212_30 : j_F 212 30 = some (.bipush 20, 2, 0, 0, .null, .int) := by decide +kernel
theorem jF_212_32 : j_F 212 32 = some (.if_icmp .ge 92, 3, 124, 0, .null, .int) := by decide +kernel
theorem jF_212_35 : j_F 212 35 = some (.iload 6, 2, 0, 0, .null, .int) := by decide +kernel
theorem jF_212_37 : j_F 212 37 = some (.iconst 4, 1, 0, 0, .null, .int) := by decide +kernel
theorem jF_212_38 : j_F 212 38 = some (.if_icmp .ge 7, 3, 45, 0, .null, .int) := by decide +kernel
theorem jF_212_41 : j_F 212 41 = some (.iload_n 1, 1, 0, 0, .null, .int) := by decide +kernel
theorem jF_212_42 : j_F 212 42 = some (.goto 39, 3, 81, 0, .null, .int) := by decide +kernel
theorem jF_212_45 : j_F 212 45 = some (.iload 6, 2, 0, 0, .null, .int) := by decide +kernel
theorem jF_212_47 : j_F 212 47 = some (.bipush 8, 2, 0, 0, .null, .int) := by decide +kernel
theorem jF_212_49 : j_F 212 49 = some (.if_icmp .ge 7, 3, 56, 0, .null, .int) := by decide +kernel
theorem jF_212_52 : j_F 212 52 = some (.iload_n 2, 1, 0, 0, .null, .int) := by decide +kernel
theorem jF_212_53 : j_F 212 53 = some (.goto 28, 3, 81, 0, .null, .int) := by decide +kernel
theorem jF_212_56 : j_F 212 56 = some (.iload 6, 2, 0, 0, .null, .int) := by decide +kernel
theorem jF_212_58 : j_F 212 58 = some (.bipush 12, 2, 0, 0, .null, .int) := by decide +kernel
theorem jF_212_60 : j_F 212 60 = some (.if_icmp .ge 7, 3, 67, 0, .null, .int) := by decide +kernel
theorem jF_212_63 : j_F 212 63 = some (.iload_n 3, 1, 0, 0, .null, .int) := by decide +kernel
theorem jF_212_64 : j_F 212 64 = some (.goto 17, 3, 81, 0, .null, .int) := by decide +kernel
theorem jF_212_67 : j_F 212 67 = some (.iload 6, 2, 0, 0, .null, .int) := by decide +kernel
theorem jF_212_69 : j_F 212 69 = some (.bipush 16, 2, 0, 0, .null, .int) := by decide +kernel
theorem jF_212_71 : j_F 212 71 = some (.if_icmp .ge 8, 3, 79, 0, .null, .int) := by decide +kernel
theorem jF_212_74 : j_F 212 74 = some (.iload 4, 2, 0, 0, .null, .int) := by decide +kernel
theorem jF_212_76 : j_F 212 76 = some (.goto 5, 3, 81, 0, .null, .int) := by decide +kernel
theorem jF_212_79 : j_F 212 79 = some (.iload 5, 2, 0, 0, .null, .int) := by decide +kernel
theorem jF_212_81 : j_F 212 81 = some (.istore 7, 2, 0, 0, .null, .int) := by decide +kernel
theorem jF_212_83 : j_F 212 83 = some (.aload_n 0, 1, 0, 0, .null, .int) := by decide +kernel
theorem jF_212_84 : j_F 212 84 = some (.getfield 7, 3, 12, 0, .null, (.array .int)) := by decide +kernel
theorem jF_212_87 : j_F 212 87 = some (.aload_n 0, 1, 0, 0, .null, .int) := by decide +kernel
theorem jF_212_88 : j_F 212 88 = some (.getfield 209, 3, 12, 1, .null, .int) := by decide +kernel
theorem jF_212_91 : j_F 212 91 = some (.iload 7, 2, 0, 0, .null, .int) := by decide +kernel
theorem jF_212_93 : j_F 212 93 = some (.bipush 8, 2, 0, 0, .null, .int) := by decide +kernel
theorem jF_212_95 : j_F 212 95 = some (.iconst 3, 1, 0, 0, .null, .int) := by decide +kernel
theorem jF_212_96 : j_F 212 96 = some (.iload 6, 2, 0, 0, .null, .int) := by decide +kernel
theorem jF_212_98 : j_F 212 98 = some (.iconst 4, 1, 0, 0, .null, .int) := by decide +kernel
theorem jF_212_99 : j_F 212 99 = some (.irem, 1, 0, 0, .null, .int) := by decide +kernel
theorem jF_212_100 : j_F 212 100 = some (.isub, 1, 0, 0, .null, .int) := by decide +kernel
theorem jF_212_101 : j_F 212 101 = some (.imul, 1, 0, 0, .null, .int) := by decide +kernel
theorem jF_212_102 : j_F 212 102 = some (.ishr, 1, 0, 0, .null, .int) := by decide +kernel
theorem jF_212_103 : j_F 212 103 = some (.sipush 255, 3, 0, 0, .null, .int) := by decide +kernel
theorem jF_212_106 : j_F 212 106 = some (.iand, 1, 0, 0, .null, .int) := by decide +kernel
theorem jF_212_107 : j_F 212 107 = some (.iastore, 1, 0, 0, .null, .int) := by decide +kernel
theorem jF_212_108 : j_F 212 108 = some (.aload_n 0, 1, 0, 0, .null, .int) := by decide +kernel
theorem jF_212_109 : j_F 212 109 = some (.dup, 1, 0, 0, .null, .int) := by decide +kernel
theorem jF_212_110 : j_F 212 110 = some (.getfield 209, 3, 12, 1, .null, .int) := by decide +kernel
theorem jF_212_113 : j_F 212 113 = some (.iconst 1, 1, 0, 0, .null, .int) := by decide +kernel
theorem jF_212_114 : j_F 212 114 = some (.iadd, 1, 0, 0, .null, .int) := by decide +kernel
theorem jF_212_115 : j_F 212 115 = some (.putfield 209, 3, 12, 1, .null, .int) := by decide +kernel
theorem jF_212_118 : j_F 212 118 = some (.iinc 6 1, 3, 0, 0, .null, .int) := by decide +kernel
theorem jF_212_121 : j_F 212 121 = some (.goto (-93), 3, 28, 0, .null, .int) := by decide +kernel
theorem jF_212_124 : j_F 212 124 = some (.aload_n 0, 1, 0, 0, .null, .int) := by decide +kernel
theorem jF_212_125 : j_F 212 125 = some (.getfield 209, 3, 12, 1, .null, .int) := by decide +kernel
theorem jF_212_128 : j_F 212 128 = some (.ireturn, 1, 0, 0, .null, .int) := by decide +kernel
theorem jF_213_0 : j_F 213 0 = some (.iload_n 1, 1, 0, 0, .null, .int) := by decide +kernel
theorem jF_213_1 : j_F 213 1 = some (.ifCond .lt 11, 3, 12, 0, .null, .int) := by decide +kernel
theorem jF_213_4 : j_F 213 4 = some (.iload_n 1, 1, 0, 0, .null, .int) := by decide +kernel
theorem jF_213_5 : j_F 213 5 = some (.aload_n 0, 1, 0, 0, .null, .int) := by decide +kernel
theorem jF_213_6 : j_F 213 6 = some (.getfield 209, 3, 12, 1, .null, .int) := by decide +kernel
theorem jF_213_9 : j_F 213 9 = some (.if_icmp .le 15, 3, 24, 0, .null, .int) := by decide +kernel
theorem jF_213_12 : j_F 213 12 = some (.aload_n 0, 1, 0, 0, .null, .int) := by decide +kernel
theorem jF_213_13 : j_F 213 13 = some (.getfield 17, 3, 12, 9, .null, (.array .int)) := by decide +kernel
theorem jF_213_16 : j_F 213 16 = some (.iconst 0, 1, 0, 0, .null, .int) := by decide +kernel
theorem jF_213_17 : j_F 213 17 = some (.dup2, 1, 0, 0, .null, .int) := by decide +kernel
theorem jF_213_18 : j_F 213 18 = some (.iaload, 1, 0, 0, .null, .int) := by decide +kernel
theorem jF_213_19 : j_F 213 19 = some (.iconst 1, 1, 0, 0, .null, .int) := by decide +kernel
theorem jF_213_20 : j_F 213 20 = some (.iadd, 1, 0, 0, .null, .int) := by decide +kernel
theorem jF_213_21 : j_F 213 21 = some (.iastore, 1, 0, 0, .null, .int) := by decide +kernel
theorem jF_213_22 : j_F 213 22 = some (.iconst 0, 1, 0, 0, .null, .int) := by decide +kernel
theorem jF_213_23 : j_F 213 23 = some (.ireturn, 1, 0, 0, .null, .boolean) := by decide +kernel
theorem jF_232_0 : j_F 232 0 = some (.lload_n 0, 1, 0, 0, .null, .int) := by decide +kernel
theorem jF_232_1 : j_F 232 1 = some (.lload_n 2, 1, 0, 0, .null, .int) := by decide +kernel
theorem jF_232_2 : j_F 232 2 = some (.lcmp, 1, 0, 0, .null, .int) := by decide +kernel
theorem jF_232_3 : j_F 232 3 = some (.ifCond .lt 14, 3, 17, 0, .null, .int) := by decide +kernel
theorem jF_232_6 : j_F 232 6 = some (.lload_n 0, 1, 0, 0, .null, .int) := by decide +kernel
theorem jF_232_7 : j_F 232 7 = some (.lload 4, 2, 0, 0, .null, .int) := by decide +kernel
theorem jF_232_9 : j_F 232 9 = some (.lcmp, 1, 0, 0, .null, .int) := by decide +kernel
theorem jF_232_10 : j_F 232 10 = some (.ifCond .gt 7, 3, 17, 0, .null, .int) := by decide +kernel
theorem jF_232_13 : j_F 232 13 = some (.iconst 1, 1, 0, 0, .null, .int) := by decide +kernel
theorem jF_232_14 : j_F 232 14 = some (.goto 4, 3, 18, 0, .null, .int) := by decide +kernel
theorem jF_232_17 : j_F 232 17 = some (.iconst 0, 1, 0, 0, .null, .int) := by decide +kernel
theorem jF_232_18 : j_F 232 18 = some (.ireturn, 1, 0, 0, .null, .boolean) := by decide +kernel
theorem jF_264_0 : j_F 264 0 = some (.iload_n 1, 1, 0, 0, .null, .int) := by decide +kernel
theorem jF_264_1 : j_F 264 1 = some (.ifCond .ne 10, 3, 11, 0, .null, .int) := by decide +kernel
theorem jF_264_11 : j_F 264 11 = some (.iload_n 1, 1, 0, 0, .null, .int) := by decide +kernel
theorem jF_264_12 : j_F 264 12 = some (.iconst 1, 1, 0, 0, .null, .int) := by decide +kernel
theorem jF_264_13 : j_F 264 13 = some (.if_icmp .ne 10, 3, 23, 0, .null, .int) := by decide +kernel
theorem jF_264_23 : j_F 264 23 = some (.iconst (-1), 1, 0, 0, .null, .int) := by decide +kernel
theorem jF_264_24 : j_F 264 24 = some (.ireturn, 1, 0, 0, .null, .int) := by decide +kernel
theorem jF_265_0 : j_F 265 0 = some (.iload_n 1, 1, 0, 0, .null, .int) := by decide +kernel
theorem jF_265_1 : j_F 265 1 = some (.tableswitch 133 0 10 #[59, 59, 59, 65, 101, 106, 111, 111, 111, 123, 128], 59, 0, 0, .null, .int) := by decide +kernel
theorem jF_265_134 : j_F 265 134 = some (.iconst (-1), 1, 0, 0, .null, .int) := by decide +kernel
theorem jF_265_135 : j_F 265 135 = some (.ireturn, 1, 0, 0, .null, .int) := by decide +kernel
theorem jF_266_0 : j_F 266 0 = some (.aload_n 0, 1, 0, 0, .null, .int) := by decide +kernel
theorem jF_266_1 : j_F 266 1 = some (.iload_n 1, 1, 0, 0, .null, .int) := by decide +kernel
theorem jF_266_2 : j_F 266 2 = some (.invokevirtual 427, 3, 267, 2, .null, .int) := by decide +kernel
theorem jF_266_5 : j_F 266 5 = some (.lstore_n 3, 1, 0, 0, .null, .int) := by decide +kernel
theorem jF_266_6 : j_F 266 6 = some (.lload_n 3, 1, 0, 0, .null, .int) := by decide +kernel
theorem jF_266_7 : j_F 266 7 = some (.lconst 0, 1, 0, 0, .null, .int) := by decide +kernel
theorem jF_266_8 : j_F 266 8 = some (.lcmp, 1, 0, 0, .null, .int) := by decide +kernel
theorem jF_266_9 : j_F 266 9 = some (.ifCond .eq 15, 3, 24, 0, .null, .int) := by decide +kernel
theorem jF_266_24 : j_F 266 24 = some (.iconst (-1), 1, 0, 0, .null, .int) := by decide +kernel
theorem jF_266_25 : j_F 266 25 = some (.ireturn, 1, 0, 0, .null, .int) := by decide +kernel
theorem jF_267_0 : j_F 267 0 = some (.iload_n 1, 1, 0, 0, .null, .int) := by decide +kernel
theorem jF_267_1 : j_F 267 1 = some (.i2l, 1, 0, 0, .null, .int) := by decide +kernel
theorem jF_267_2 : j_F 267 2 = some (.lconst 0, 1, 0, 0, .null, .int) := by decide +kernel
theorem jF_267_3 : j_F 267 3 = some (.ldc2_w 425, 3, 0, 0, (.long (17)), .int) := by decide +kernel
theorem jF_267_6 : j_F 267 6 = some (.invokestatic 252, 3, 232, 3, .null, .int) := by decide +kernel
theorem jF_267_9 : j_F 267 9 = some (.ifCond .eq 13, 3, 22, 0, .null, .int) := by decide +kernel
theorem jF_267_12 : j_F 267 12 = some (.aload_n 0, 1, 0, 0, .null, .int) := by decide +kernel
theorem jF_267_13 : j_F 267 13 = some (.getfield 75, 3, 12, 29, .null, (.array .long)) := by decide +kernel
theorem jF_267_16 : j_F 267 16 = some (.bipush 18, 2, 0, 0, .null, .int) := by decide +kernel
theorem jF_267_18 : j_F 267 18 = some (.iload_n 1, 1, 0, 0, .null, .int) := by decide +kernel
theorem jF_267_19 : j_F 267 19 = some (.iadd, 1, 0, 0, .null, .int) := by decide +kernel
theorem jF_267_20 : j_F 267 20 = some (.laload, 1, 0, 0, .null, .int) := by decide +kernel
theorem jF_267_21 : j_F 267 21 = some (.lreturn, 1, 0, 0, .null, .int) := by decide +kernel
theorem jF_267_22 : j_F 267 22 = some (.iload_n 1, 1, 0, 0, .null, .int) := by decide +kernel
theorem jF_267_23 : j_F 267 23 = some (.bipush 20, 2, 0, 0, .null, .int) := by decide +kernel
theorem jF_267_25 : j_F 267 25 = some (.isub, 1, 0, 0, .null, .int) := by decide +kernel
theorem jF_267_26 : j_F 267 26 = some (.i2l, 1, 0, 0, .null, .int) := by decide +kernel
theorem jF_267_27 : j_F 267 27 = some (.lconst 0, 1, 0, 0, .null, .int) := by decide +kernel
theorem jF_267_28 : j_F 267 28 = some (.aload_n 0, 1, 0, 0, .null, .int) := by decide +kernel
theorem jF_267_29 : j_F 267 29 = some (.getfield 340, 3, 12, 34, .null, .int) := by decide +kernel
theorem jF_267_32 : j_F 267 32 = some (.iconst 1, 1, 0, 0, .null, .int) := by decide +kernel
theorem jF_267_33 : j_F 267 33 = some (.isub, 1, 0, 0, .null, .int) := by decide +kernel
theorem jF_267_34 : j_F 267 34 = some (.i2l, 1, 0, 0, .null, .int) := by decide +kernel
theorem jF_267_35 : j_F 267 35 = some (.invokestatic 252, 3, 232, 3, .null, .int) := by decide +kernel
theorem jF_267_38 : j_F 267 38 = some (.ifCond .eq 17, 3, 55, 0, .null, .int) := by decide +kernel
theorem jF_267_55 : j_F 267 55 = some (.lconst 0, 1, 0, 0, .null, .int) := by decide +kernel
theorem jF_267_56 : j_F 267 56 = some (.lreturn, 1, 0, 0, .null, .int) := by decide +kernel
theorem jF_268_0 : j_F 268 0 = some (.iload_n 1, 1, 0, 0, .null, .int) := by decide +kernel
theorem jF_268_1 : j_F 268 1 = some (.invokestatic 432, 3, 269, 1, .null, .int) := by decide +kernel
theorem jF_268_4 : j_F 268 4 = some (.istore_n 3, 1, 0, 0, .null, .int) := by decide +kernel
theorem jF_268_5 : j_F 268 5 = some (.iload_n 2, 1, 0, 0, .null, .int) := by decide +kernel
theorem jF_268_6 : j_F 268 6 = some (.iconst (-1), 1, 0, 0, .null, .int) := by decide +kernel
theorem jF_268_7 : j_F 268 7 = some (.if_icmp .ne 12, 3, 19, 0, .null, .int) := by decide +kernel
theorem jF_268_19 : j_F 268 19 = some (.iload_n 2, 1, 0, 0, .null, .int) := by decide +kernel
theorem jF_268_20 : j_F 268 20 = some (.i2l, 1, 0, 0, .null, .int) := by decide +kernel
theorem jF_268_21 : j_F 268 21 = some (.lconst 0, 1, 0, 0, .null, .int) := by decide +kernel
theorem jF_268_22 : j_F 268 22 = some (.aload_n 0, 1, 0, 0, .null, .int) := by decide +kernel
theorem jF_268_23 : j_F 268 23 = some (.getfield 109, 3, 12, 47, .null, (.array .int)) := by decide +kernel
theorem jF_268_26 : j_F 268 26 = some (.iload_n 3, 1, 0, 0, .null, .int) := by decide +kernel
theorem jF_268_27 : j_F 268 27 = some (.iaload, 1, 0, 0, .null, .int) := by decide +kernel
theorem jF_268_28 : j_F 268 28 = some (.iconst 1, 1, 0, 0, .null, .int) := by decide +kernel
theorem jF_268_29 : j_F 268 29 = some (.isub, 1, 0, 0, .null, .int) := by decide +kernel
theorem jF_268_30 : j_F 268 30 = some (.i2l, 1, 0, 0, .null, .int) := by decide +kernel
theorem jF_268_31 : j_F 268 31 = some (.invokestatic 252, 3, 232, 3, .null, .int) := by decide +kernel
theorem jF_268_34 : j_F 268 34 = some (.ifCond .eq 17, 3, 51, 0, .null, .int) := by decide +kernel
theorem jF_268_51 : j_F 268 51 = some (.iconst (-1), 1, 0, 0, .null, .int) := by decide +kernel
theorem jF_268_52 : j_F 268 52 = some (.ireturn, 1, 0, 0, .null, .int) := by decide +kernel
theorem jF_269_0 : j_F 269 0 = some (.iload_n 0, 1, 0, 0, .null, .int) := by decide +kernel
theorem jF_269_1 : j_F 269 1 = some (.ifCond .eq 7, 3, 8, 0, .null, .int) := by decide +kernel
theorem jF_269_4 : j_F 269 4 = some (.iconst 1, 1, 0, 0, .null, .int) := by decide +kernel
theorem jF_269_5 : j_F 269 5 = some (.goto 4, 3, 9, 0, .null, .int) := by decide +kernel
theorem jF_269_8 : j_F 269 8 = some (.iconst 0, 1, 0, 0, .null, .int) := by decide +kernel
theorem jF_269_9 : j_F 269 9 = some (.ireturn, 1, 0, 0, .null, .int) := by decide +kernel
theorem jF_270_0 : j_F 270 0 = some (.aload_n 0, 1, 0, 0, .null, .int) := by decide +kernel
theorem jF_270_1 : j_F 270 1 = some (.iload_n 1, 1, 0, 0, .null, .int) := by decide +kernel
theorem jF_270_2 : j_F 270 2 = some (.invokestatic 432, 3, 269, 1, .null, .int) := by decide +kernel
theorem jF_270_5 : j_F 270 5 = some (.invokevirtual 416, 3, 271, 2, .null, .int) := by decide +kernel
theorem jF_270_8 : j_F 270 8 = some (.iload_n 2, 1, 0, 0, .null, .int) := by decide +kernel
theorem jF_270_9 : j_F 270 9 = some (.tableswitch 84 0 4 #[35, 40, 50, 58, 63], 35, 0, 0, .null, .int) := by decide +kernel
theorem jF_270_93 : j_F 270 93 = some (.iconst (-1), 1, 0, 0, .null, .int) := by decide +kernel
theorem jF_270_94 : j_F 270 94 = some (.ireturn, 1, 0, 0, .null, .int) := by decide +kernel
theorem jF_273_0 : j_F 273 0 = some (.iconst 0, 1, 0, 0, .null, .int) := by decide +kernel
theorem jF_273_1 : j_F 273 1 = some (.istore_n 2, 1, 0, 0, .null, .int) := by decide +kernel
theorem jF_273_2 : j_F 273 2 = some (.lload_n 0, 1, 0, 0, .null, .int) := by decide +kernel
theorem jF_273_3 : j_F 273 3 = some (.lstore_n 3, 1, 0, 0, .null, .int) := by decide +kernel
theorem jF_273_4 : j_F 273 4 = some (.lload_n 3, 1, 0, 0, .null, .int) := by decide +kernel
theorem jF_273_5 : j_F 273 5 = some (.lconst 0, 1, 0, 0, .null, .int) := by decide +kernel
theorem jF_273_6 : j_F 273 6 = some (.lcmp, 1, 0, 0, .null, .int) := by decide +kernel
theorem jF_273_7 : j_F 273 7 = some (.ifCond .eq 15, 3, 22, 0, .null, .int) := by decide +kernel
theorem jF_273_22 : j_F 273 22 = some (.iload_n 2, 1, 0, 0, .null, .int) := by decide +kernel
theorem jF_273_23 : j_F 273 23 = some (.ireturn, 1, 0, 0, .null, .int) := by decide +kernel
theorem jF_275_0 : j_F 275 0 = some (.aload_n 0, 1, 0, 0, .null, .int) := by decide +kernel
theorem jF_275_1 : j_F 275 1 = some (.iload_n 2, 1, 0, 0, .null, .int) := by decide +kernel
theorem jF_275_2 : j_F 275 2 = some (.invokevirtual 445, 3, 276, 2, .null, .int) := by decide +kernel
theorem jF_275_5 : j_F 275 5 = some (.ifCond .eq 19, 3, 24, 0, .null, .int) := by decide +kernel
theorem jF_275_24 : j_F 275 24 = some (.iconst (-1), 1, 0, 0, .null, .int) := by decide +kernel
theorem jF_275_25 : j_F 275 25 = some (.ireturn, 1, 0, 0, .null, .int) := by decide +kernel
theorem jF_276_0 : j_F 276 0 = some (.iload_n 1, 1, 0, 0, .null, .int) := by decide +kernel
theorem jF_276_1 : j_F 276 1 = some (.i2l, 1, 0, 0, .null, .int) := by decide +kernel
theorem jF_276_2 : j_F 276 2 = some (.lconst 0, 1, 0, 0, .null, .int) := by decide +kernel
theorem jF_276_3 : j_F 276 3 = some (.aload_n 0, 1, 0, 0, .null, .int) := by decide +kernel
theorem jF_276_4 : j_F 276 4 = some (.invokevirtual 358, 3, 243, 1, .null, .int) := by decide +kernel
theorem jF_276_7 : j_F 276 7 = some (.iconst 1, 1, 0, 0, .null, .int) := by decide +kernel
theorem jF_276_8 : j_F 276 8 = some (.isub, 1, 0, 0, .null, .int) := by decide +kernel
theorem jF_276_9 : j_F 276 9 = some (.i2l, 1, 0, 0, .null, .int) := by decide +kernel
theorem jF_276_10 : j_F 276 10 = some (.invokestatic 252, 3, 232, 3, .null, .int) := by decide +kernel
theorem jF_276_13 : j_F 276 13 = some (.ireturn, 1, 0, 0, .null, .boolean) := by decide +kernel
theorem jF_278_0 : j_F 278 0 = some (.aload_n 0, 1, 0, 0, .null, .int) := by decide +kernel
theorem jF_278_1 : j_F 278 1 = some (.iload_n 1, 1, 0, 0, .null, .int) := by decide +kernel
theorem jF_278_2 : j_F 278 2 = some (.invokevirtual 445, 3, 276, 2, .null, .int) := by decide +kernel
theorem jF_278_5 : j_F 278 5 = some (.ifCond .ne 5, 3, 10, 0, .null, .int) := by decide +kernel
theorem jF_278_8 : j_F 278 8 = some (.iconst (-1), 1, 0, 0, .null, .int) := by decide +kernel
theorem jF_278_9 : j_F 278 9 = some (.ireturn, 1, 0, 0, .null, .int) := by decide +kernel
theorem jF_279_0 : j_F 279 0 = some (.aload_n 0, 1, 0, 0, .null, .int) := by decide +kernel
theorem jF_279_1 : j_F 279 1 = some (.iload_n 1, 1, 0, 0, .null, .int) := by decide +kernel
theorem jF_279_2 : j_F 279 2 = some (.invokevirtual 445, 3, 276, 2, .null, .int) := by decide +kernel
theorem jF_279_5 : j_F 279 5 = some (.ifCond .eq 17, 3, 22, 0, .null, .int) := by decide +kernel
theorem jF_279_22 : j_F 279 22 = some (.iconst (-1), 1, 0, 0, .null, .int) := by decide +kernel
theorem jF_279_23 : j_F 279 23 = some (.ireturn, 1, 0, 0, .null, .int) := by decide +kernel
theorem jF_284_0 : j_F 284 0 = some (.iload_n 1, 1, 0, 0, .null, .int) := by decide +kernel
theorem jF_284_1 : j_F 284 1 = some (.i2l, 1, 0, 0, .null, .int) := by decide +kernel
theorem jF_284_2 : j_F 284 2 = some (.lconst 0, 1, 0, 0, .null, .int) := by decide +kernel
theorem jF_284_3 : j_F 284 3 = some (.aload_n 0, 1, 0, 0, .null, .int) := by decide +kernel
theorem jF_284_4 : j_F 284 4 = some (.getfield 109, 3, 12, 47, .null, (.array .int)) := by decide +kernel
theorem jF_284_7 : j_F 284 7 = some (.iconst 0, 1, 0, 0, .null, .int) := by decide +kernel
theorem jF_284_8 : j_F 284 8 = some (.iaload, 1, 0, 0, .null, .int) := by decide +kernel
theorem jF_284_9 : j_F 284 9 = some (.iconst 1, 1, 0, 0, .null, .int) := by decide +kernel
theorem jF_284_10 : j_F 284 10 = some (.isub, 1, 0, 0, .null, .int) := by decide +kernel
theorem jF_284_11 : j_F 284 11 = some (.i2l, 1, 0, 0, .null, .int) := by decide +kernel
theorem jF_284_12 : j_F 284 12 = some (.invokestatic 252, 3, 232, 3, .null, .int) := by decide +kernel
theorem jF_284_15 : j_F 284 15 = some (.ifCond .ne 5, 3, 20, 0, .null, .int) := by decide +kernel
theorem jF_284_18 : j_F 284 18 = some (.iconst (-1), 1, 0, 0, .null, .int) := by decide +kernel
theorem jF_284_19 : j_F 284 19 = some (.ireturn, 1, 0, 0, .null, .int) := by decide +kernel
theorem jF_286_0 : j_F 286 0 = some (.aload_n 0, 1, 0, 0, .null, .int) := by decide +kernel
theorem jF_286_1 : j_F 286 1 = some (.iconst 0, 1, 0, 0, .null, .int) := by decide +kernel
theorem jF_286_2 : j_F 286 2 = some (.iload_n 1, 1, 0, 0, .null, .int) := by decide +kernel
theorem jF_286_3 : j_F 286 3 = some (.iload_n 2, 1, 0, 0, .null, .int) := by decide +kernel
theorem jF_286_4 : j_F 286 4 = some (.invokevirtual 472, 3, 287, 4, .null, .int) := by decide +kernel
theorem jF_286_7 : j_F 286 7 = some (.ireturn, 1, 0, 0, .null, .int) := by decide +kernel
theorem jF_287_0 : j_F 287 0 = some (.aload_n 0, 1, 0, 0, .null, .int) := by decide +kernel
theorem jF_287_1 : j_F 287 1 = some (.iconst 0, 1, 0, 0, .null, .int) := by decide +kernel
theorem jF_287_2 : j_F 287 2 = some (.iload_n 1, 1, 0, 0, .null, .int) := by decide +kernel
theorem jF_287_3 : j_F 287 3 = some (.iload_n 2, 1, 0, 0, .null, .int) := by decide +kernel
theorem jF_287_4 : j_F 287 4 = some (.iload_n 3, 1, 0, 0, .null, .int) := by decide +kernel
theorem jF_287_5 : j_F 287 5 = some (.invokevirtual 465, 3, 288, 5, .null, .int) := by decide +kernel
theorem jF_287_8 : j_F 287 8 = some (.ifCond .eq 10, 3, 18, 0, .null, .int) := by decide +kernel
theorem jF_287_18 : j_F 287 18 = some (.aload_n 0, 1, 0, 0, .null, .int) := by decide +kernel
theorem jF_287_19 : j_F 287 19 = some (.getfield 17, 3, 12, 9, .null, (.array .int)) := by decide +kernel
theorem jF_287_22 : j_F 287 22 = some (.iconst 2, 1, 0, 0, .null, .int) := by decide +kernel
theorem jF_287_23 : j_F 287 23 = some (.dup2, 1, 0, 0, .null, .int) := by decide +kernel
theorem jF_287_24 : j_F 287 24 = some (.iaload, 1, 0, 0, .null, .int) := by decide +kernel
theorem jF_287_25 : j_F 287 25 = some (.iconst 1, 1, 0, 0, .null, .int) := by decide +kernel
theorem jF_287_26 : j_F 287 26 = some (.iadd, 1, 0, 0, .null, .int) := by decide +kernel
theorem jF_287_27 : j_F 287 27 = some (.iastore, 1, 0, 0, .null, .int) := by decide +kernel
theorem jF_287_28 : j_F 287 28 = some (.iconst (-1), 1, 0, 0, .null, .int) := by decide +kernel
theorem jF_287_29 : j_F 287 29 = some (.ireturn, 1, 0, 0, .null, .int) := by decide +kernel
theorem jF_288_0 : j_F 288 0 = some (.aload_n 0, 1, 0, 0, .null, .int) := by decide +kernel
theorem jF_288_1 : j_F 288 1 = some (.iload_n 1, 1, 0, 0, .null, .int) := by decide +kernel
theorem jF_288_2 : j_F 288 2 = some (.invokevirtual 416, 3, 271, 2, .null, .int) := by decide +kernel
theorem jF_288_5 : j_F 288 5 = some (.iload_n 3, 1, 0, 0, .null, .int) := by decide +kernel
theorem jF_288_6 : j_F 288 6 = some (.i2l, 1, 0, 0, .null, .int) := by decide +kernel
theorem jF_288_7 : j_F 288 7 = some (.lconst 0, 1, 0, 0, .null, .int) := by decide +kernel
theorem jF_288_8 : j_F 288 8 = some (.iload_n 2, 1, 0, 0, .null, .int) := by decide +kernel
theorem jF_288_9 : j_F 288 9 = some (.ifCond .ne 11, 3, 20, 0, .null, .int) := by decide +kernel
theorem jF_288_12 : j_F 288 12 = some (.aload_n 0, 1, 0, 0, .null, .int) := by decide +kernel
theorem jF_288_13 : j_F 288 13 = some (.getfield 401, 3, 12, 49, .null, .int) := by decide +kernel
theorem jF_288_16 : j_F 288 16 = some (.i2l, 1, 0, 0, .null, .int) := by decide +kernel
theorem jF_288_17 : j_F 288 17 = some (.goto 10, 3, 27, 0, .null, .int) := by decide +kernel
theorem jF_288_20 : j_F 288 20 = some (.aload_n 0, 1, 0, 0, .null, .int) := by decide +kernel
theorem jF_288_21 : j_F 288 21 = some (.getfield 401, 3, 12, 49, .null, .int) := by decide +kernel
theorem jF_288_24 : j_F 288 24 = some (.iconst 1, 1, 0, 0, .null, .int) := by decide +kernel
theorem jF_288_25 : j_F 288 25 = some (.isub, 1, 0, 0, .null, .int) := by decide +kernel
theorem jF_288_26 : j_F 288 26 = some (.i2l, 1, 0, 0, .null, .int) := by decide +kernel
theorem jF_288_27 : j_F 288 27 = some (.invokestatic 252, 3, 232, 3, .null, .int) := by decide +kernel
theorem jF_288_30 : j_F 288 30 = some (.ifCond .eq 21, 3, 51, 0, .null, .int) := by decide +kernel
theorem jF_288_33 : j_F 288 33 = some (.iload_n 2, 1, 0, 0, .null, .int) := by decide +kernel
theorem jF_288_34 : j_F 288 34 = some (.iconst 1, 1, 0, 0, .null, .int) := by decide +kernel
theorem jF_288_35 : j_F 288 35 = some (.if_icmp .eq 18, 3, 53, 0, .null, .int) := by decide +kernel
theorem jF_288_38 : j_F 288 38 = some (.iload 4, 2, 0, 0, .null, .int) := by decide +kernel
theorem jF_288_40 : j_F 288 40 = some (.i2l, 1, 0, 0, .null, .int) := by decide +kernel
theorem jF_288_41 : j_F 288 41 = some (.lconst 0, 1, 0, 0, .null, .int) := by decide +kernel
theorem jF_288_42 : j_F 288 42 = some (.ldc2_w 460, 3, 0, 0, (.long (22)), .int) := by decide +kernel
theorem jF_288_45 : j_F 288 45 = some (.invokestatic 252, 3, 232, 3, .null, .int) := by decide +kernel
theorem jF_288_48 : j_F 288 48 = some (.ifCond .ne 5, 3, 53, 0, .null, .int) := by decide +kernel
theorem jF_288_51 : j_F 288 51 = some (.iconst 0, 1, 0, 0, .null, .int) := by decide +kernel
theorem jF_288_52 : j_F 288 52 = some (.ireturn, 1, 0, 0, .null, .boolean) := by decide +kernel
theorem jF_291_0 : j_F 291 0 = some (.aload_n 0, 1, 0, 0, .null, .int) := by decide +kernel
theorem jF_291_1 : j_F 291 1 = some (.iconst 1, 1, 0, 0, .null, .int) := by decide +kernel
theorem jF_291_2 : j_F 291 2 = some (.iload_n 1, 1, 0, 0, .null, .int) := by decide +kernel
theorem jF_291_3 : j_F 291 3 = some (.iconst 0, 1, 0, 0, .null, .int) := by decide +kernel
theorem jF_291_4 : j_F 291 4 = some (.invokevirtual 472, 3, 287, 4, .null, .int) := by decide +kernel
theorem jF_291_7 : j_F 291 7 = some (.ireturn, 1, 0, 0, .null, .int) := by decide +kernel
theorem jF_292_0 : j_F 292 0 = some (.aload_n 0, 1, 0, 0, .null, .int) := by decide +kernel
theorem jF_292_1 : j_F 292 1 = some (.iconst 2, 1, 0, 0, .null, .int) := by decide +kernel
theorem jF_292_2 : j_F 292 2 = some (.iload_n 1, 1, 0, 0, .null, .int) := by decide +kernel
theorem jF_292_3 : j_F 292 3 = some (.iload_n 2, 1, 0, 0, .null, .int) := by decide +kernel
theorem jF_292_4 : j_F 292 4 = some (.invokevirtual 472, 3, 287, 4, .null, .int) := by decide +kernel
theorem jF_292_7 : j_F 292 7 = some (.ireturn, 1, 0, 0, .null, .int) := by decide +kernel
theorem jF_293_0 : j_F 293 0 = some (.iload_n 1, 1, 0, 0, .null, .int) := by decide +kernel
theorem jF_293_1 : j_F 293 1 = some (.i2l, 1, 0, 0, .null, .int) := by decide +kernel
theorem jF_293_2 : j_F 293 2 = some (.lconst 0, 1, 0, 0, .null, .int) := by decide +kernel
theorem jF_293_3 : j_F 293 3 = some (.ldc2_w 476, 3, 0, 0, (.long (2)), .int) := by decide +kernel
theorem jF_293_6 : j_F 293 6 = some (.invokestatic 252, 3, 232, 3, .null, .int) := by decide +kernel
theorem jF_293_9 : j_F 293 9 = some (.ifCond .ne 5, 3, 14, 0, .null, .int) := by decide +kernel
theorem jF_293_12 : j_F 293 12 = some (.iconst (-1), 1, 0, 0, .null, .int) := by decide +kernel
theorem jF_293_13 : j_F 293 13 = some (.ireturn, 1, 0, 0, .null, .int) := by decide +kernel
theorem jF_294_0 : j_F 294 0 = some (.iload_n 2, 1, 0, 0, .null, .int) := by decide +kernel
theorem jF_294_1 : j_F 294 1 = some (.i2l, 1, 0, 0, .null, .int) := by decide +kernel
theorem jF_294_2 : j_F 294 2 = some (.lconst 0, 1, 0, 0, .null, .int) := by decide +kernel
theorem jF_294_3 : j_F 294 3 = some (.ldc2_w 506, 3, 0, 0, (.long (3)), .int) := by decide +kernel
theorem jF_294_6 : j_F 294 6 = some (.invokestatic 252, 3, 232, 3, .null, .int) := by decide +kernel
theorem jF_294_9 : j_F 294 9 = some (.ifCond .ne 5, 3, 14, 0, .null, .int) := by decide +kernel
theorem jF_294_12 : j_F 294 12 = some (.iconst (-1), 1, 0, 0, .null, .int) := by decide +kernel
theorem jF_294_13 : j_F 294 13 = some (.ireturn, 1, 0, 0, .null, .int) := by decide +kernel
theorem jF_294_14 : j_F 294 14 = some (.aload_n 0, 1, 0, 0, .null, .int) := by decide +kernel
theorem jF_294_15 : j_F 294 15 = some (.aload_n 0, 1, 0, 0, .null, .int) := by decide +kernel
theorem jF_294_16 : j_F 294 16 = some (.iload_n 1, 1, 0, 0, .null, .int) := by decide +kernel
theorem jF_294_17 : j_F 294 17 = some (.invokestatic 432, 3, 269, 1, .null, .int) := by decide +kernel
theorem jF_294_20 : j_F 294 20 = some (.invokevirtual 448, 3, 277, 2, .null, .int) := by decide +kernel
theorem jF_294_23 : j_F 294 23 = some (.invokevirtual 508, 3, 295, 2, .null, .int) := by decide +kernel
theorem jF_294_26 : j_F 294 26 = some (.aload_n 0, 1, 0, 0, .null, .int) := by decide +kernel
theorem jF_294_27 : j_F 294 27 = some (.getfield 494, 3, 12, 59, .null, .int) := by decide +kernel
theorem jF_294_30 : j_F 294 30 = some (.iconst (-1), 1, 0, 0, .null, .int) := by decide +kernel
theorem jF_294_31 : j_F 294 31 = some (.if_icmp .ne 5, 3, 36, 0, .null, .int) := by decide +kernel
theorem jF_294_36 : j_F 294 36 = some (.iload_n 2, 1, 0, 0, .null, .int) := by decide +kernel
theorem jF_294_37 : j_F 294 37 = some (.tableswitch 63 0 2 #[27, 32, 58], 27, 0, 0, .null, .int) := by decide +kernel
theorem jF_294_64 : j_F 294 64 = some (.aload_n 0, 1, 0, 0, .null, .int) := by decide +kernel
theorem jF_294_65 : j_F 294 65 = some (.getfield 494, 3, 12, 59, .null, .int) := by decide +kernel
theorem jF_294_68 : j_F 294 68 = some (.ireturn, 1, 0, 0, .null, .int) := by decide +kernel
theorem jF_294_69 : j_F 294 69 = some (.aload_n 0, 1, 0, 0, .null, .int) := by decide +kernel
theorem jF_294_70 : j_F 294 70 = some (.getfield 497, 3, 12, 60, .null, .int) := by decide +kernel
theorem jF_294_73 : j_F 294 73 = some (.iconst (-1), 1, 0, 0, .null, .int) := by decide +kernel
theorem jF_294_74 : j_F 294 74 = some (.if_icmp .ne 7, 3, 81, 0, .null, .int) := by decide +kernel
theorem jF_294_77 : j_F 294 77 = some (.iconst 0, 1, 0, 0, .null, .int) := by decide +kernel
theorem jF_294_78 : j_F 294 78 = some (.goto 16, 3, 94, 0, .null, .int) := by decide +kernel
theorem jF_294_94 : j_F 294 94 = some (.ireturn, 1, 0, 0, .null, .int) := by decide +kernel
theorem jF_294_95 : j_F 294 95 = some (.aload_n 0, 1, 0, 0, .null, .int) := by decide +kernel
theorem jF_294_96 : j_F 294 96 = some (.getfield 497, 3, 12, 60, .null, .int) := by decide +kernel
theorem jF_294_99 : j_F 294 99 = some (.ireturn, 1, 0, 0, .null, .int) := by decide +kernel
theorem jF_294_100 : j_F 294 100 = some (.aload_n 0, 1, 0, 0, .null, .int) := by decide +kernel
theorem jF_294_101 : j_F 294 101 = some (.getfield 500, 3, 12, 61, .null, .int) := by decide +kernel
theorem jF_294_104 : j_F 294 104 = some (.ireturn, 1, 0, 0, .null, .int) := by decide +kernel
theorem jF_297_0 : j_F 297 0 = some (.aload_n 0, 1, 0, 0, .null, .int) := by decide +kernel
theorem jF_297_1 : j_F 297 1 = some (.getfield 478, 3, 12, 56, .null, .int) := by decide +kernel
theorem jF_297_4 : j_F 297 4 = some (.ireturn, 1, 0, 0, .null, .int) := by decide +kernel
theorem jF_298_0 : j_F 298 0 = some (.iload_n 1, 1, 0, 0, .null, .int) := by decide +kernel
theorem jF_298_1 : j_F 298 1 = some (.i2l, 1, 0, 0, .null, .int) := by decide +kernel
theorem jF_298_2 : j_F 298 2 = some (.lconst 0, 1, 0, 0, .null, .int) := by decide +kernel
theorem jF_298_3 : j_F 298 3 = some (.aload_n 0, 1, 0, 0, .null, .int) := by decide +kernel
theorem jF_298_4 : j_F 298 4 = some (.getfield 478, 3, 12, 56, .null, .int) := by decide +kernel
theorem jF_298_7 : j_F 298 7 = some (.iconst 1, 1, 0, 0, .null, .int) := by decide +kernel
theorem jF_298_8 : j_F 298 8 = some (.isub, 1, 0, 0, .null, .int) := by decide +kernel
theorem jF_298_9 : j_F 298 9 = some (.i2l, 1, 0, 0, .null, .int) := by decide +kernel
theorem jF_298_10 : j_F 298 10 = some (.invokestatic 252, 3, 232, 3, .null, .int) := by decide +kernel
theorem jF_298_13 : j_F 298 13 = some (.ifCond .ne 5, 3, 18, 0, .null, .int) := by decide +kernel
theorem jF_298_16 : j_F 298 16 = some (.iconst (-1), 1, 0, 0, .null, .int) := by decide +kernel
theorem jF_298_17 : j_F 298 17 = some (.ireturn, 1, 0, 0, .null, .int) := by decide +kernel
theorem jF_308_0 : j_F 308 0 = some (.aload_n 0, 1, 0, 0, .null, .int) := by decide +kernel
theorem jF_308_1 : j_F 308 1 = some (.iconst 0, 1, 0, 0, .null, .int) := by decide +kernel
theorem jF_308_2 : j_F 308 2 = some (.invokevirtual 448, 3, 277, 2, .null, .int) := by decide +kernel
theorem jF_308_5 : j_F 308 5 = some (.lstore_n 3, 1, 0, 0, .null, .int) := by decide +kernel
theorem jF_308_6 : j_F 308 6 = some (.aload_n 0, 1, 0, 0, .null, .int) := by decide +kernel
theorem jF_308_7 : j_F 308 7 = some (.iconst 1, 1, 0, 0, .null, .int) := by decide +kernel
theorem jF_308_8 : j_F 308 8 = some (.invokevirtual 448, 3, 277, 2, .null, .int) := by decide +kernel
theorem jF_308_11 : j_F 308 11 = some (.lstore 5, 2, 0, 0, .null, .int) := by decide +kernel
theorem jF_308_13 : j_F 308 13 = some (.iload_n 1, 1, 0, 0, .null, .int) := by decide +kernel
theorem jF_308_14 : j_F 308 14 = some (.ifCond .eq 14, 3, 28, 0, .null, .int) := by decide +kernel
theorem jF_308_17 : j_F 308 17 = some (.lload 5, 2, 0, 0, .null, .int) := by decide +kernel
theorem jF_308_19 : j_F 308 19 = some (.lload_n 3, 1, 0, 0, .null, .int) := by decide +kernel
theorem jF_308_20 : j_F 308 20 = some (.ldc2_w 407, 3, 0, 0, (.long (-1)), .int) := by decide +kernel
theorem jF_308_23 : j_F 308 23 = some (.lxor, 1, 0, 0, .null, .int) := by decide +kernel
theorem jF_308_24 : j_F 308 24 = some (.land, 1, 0, 0, .null, .int) := by decide +kernel
theorem jF_308_25 : j_F 308 25 = some (.goto 11, 3, 36, 0, .null, .int) := by decide +kernel
theorem jF_308_28 : j_F 308 28 = some (.lload_n 3, 1, 0, 0, .null, .int) := by decide +kernel
theorem jF_308_29 : j_F 308 29 = some (.lload 5, 2, 0, 0, .null, .int) := by decide +kernel
theorem jF_308_31 : j_F 308 31 = some (.ldc2_w 407, 3, 0, 0, (.long (-1)), .int) := by decide +kernel
theorem jF_308_34 : j_F 308 34 = some (.lxor, 1, 0, 0, .null, .int) := by decide +kernel
theorem jF_308_35 : j_F 308 35 = some (.land, 1, 0, 0, .null, .int) := by decide +kernel
theorem jF_308_36 : j_F 308 36 = some (.iload_n 2, 1, 0, 0, .null, .int) := by decide +kernel
theorem jF_308_37 : j_F 308 37 = some (.invokestatic 542, 3, 309, 2, .null, .int) := by decide +kernel
theorem jF_308_40 : j_F 308 40 = some (.ireturn, 1, 0, 0, .null, .int) := by decide +kernel
theorem jF_309_0 : j_F 309 0 = some (.iconst 0, 1, 0, 0, .null, .int) := by decide +kernel
theorem jF_309_1 : j_F 309 1 = some (.istore_n 3, 1, 0, 0, .null, .int) := by decide +kernel
theorem jF_309_2 : j_F 309 2 = some (.iconst 0, 1, 0, 0, .null, .int) := by decide +kernel
theorem jF_309_3 : j_F 309 3 = some (.istore 4, 2, 0, 0, .null, .int) := by decide +kernel
theorem jF_309_5 : j_F 309 5 = some (.iload 4, 2, 0, 0, .null, .int) := by decide +kernel
theorem jF_309_7 : j_F 309 7 = some (.bipush 64, 2, 0, 0, .null, .int) := by decide +kernel
theorem jF_309_9 : j_F 309 9 = some (.if_icmp .ge 34, 3, 43, 0, .null, .int) := by decide +kernel
theorem jF_309_12 : j_F 309 12 = some (.lload_n 0, 1, 0, 0, .null, .int) := by decide +kernel
theorem jF_309_13 : j_F 309 13 = some (.iload 4, 2, 0, 0, .null, .int) := by decide +kernel
theorem jF_309_15 : j_F 309 15 = some (.lshr, 1, 0, 0, .null, .int) := by decide +kernel
theorem jF_309_16 : j_F 309 16 = some (.lconst 1, 1, 0, 0, .null, .int) := by decide +kernel
theorem jF_309_17 : j_F 309 17 = some (.land, 1, 0, 0, .null, .int) := by decide +kernel
theorem jF_309_18 : j_F 309 18 = some (.lconst 0, 1, 0, 0, .null, .int) := by decide +kernel
theorem jF_309_19 : j_F 309 19 = some (.lcmp, 1, 0, 0, .null, .int) := by decide +kernel
theorem jF_309_20 : j_F 309 20 = some (.ifCond .ne 6, 3, 26, 0, .null, .int) := by decide +kernel
theorem jF_309_23 : j_F 309 23 = some (.goto 14, 3, 37, 0, .null, .int) := by decide +kernel
theorem jF_309_37 : j_F 309 37 = some (.iinc 4 1, 3, 0, 0, .null, .int) := by decide +kernel
theorem jF_309_40 : j_F 309 40 = some (.goto (-35), 3, 5, 0, .null, .int) := by decide +kernel
theorem jF_309_43 : j_F 309 43 = some (.iconst (-1), 1, 0, 0, .null, .int) := by decide +kernel
theorem jF_309_44 : j_F 309 44 = some (.ireturn, 1, 0, 0, .null, .int) := by decide +kernel
theorem jF_311_0 : j_F 311 0 = some (.aload_n 0, 1, 0, 0, .null, .int) := by decide +kernel
theorem jF_311_1 : j_F 311 1 = some (.iload_n 2, 1, 0, 0, .null, .int) := by decide +kernel
theorem jF_311_2 : j_F 311 2 = some (.invokevirtual 546, 3, 312, 2, .null, .int) := by decide +kernel
theorem jF_311_5 : j_F 311 5 = some (.ifCond .eq 19, 3, 24, 0, .null, .int) := by decide +kernel
theorem jF_311_24 : j_F 311 24 = some (.iconst (-1), 1, 0, 0, .null, .int) := by decide +kernel
theorem jF_311_25 : j_F 311 25 = some (.ireturn, 1, 0, 0, .null, .int) := by decide +kernel
theorem jF_312_0 : j_F 312 0 = some (.iload_n 1, 1, 0, 0, .null, .int) := by decide +kernel
theorem jF_312_1 : j_F 312 1 = some (.i2l, 1, 0, 0, .null, .int) := by decide +kernel
theorem jF_312_2 : j_F 312 2 = some (.lconst 0, 1, 0, 0, .null, .int) := by decide +kernel
theorem jF_312_3 : j_F 312 3 = some (.aload_n 0, 1, 0, 0, .null, .int) := by decide +kernel
theorem jF_312_4 : j_F 312 4 = some (.getfield 340, 3, 12, 34, .null, .int) := by decide +kernel
theorem jF_312_7 : j_F 312 7 = some (.iconst 1, 1, 0, 0, .null, .int) := by decide +kernel
theorem jF_312_8 : j_F 312 8 = some (.isub, 1, 0, 0, .null, .int) := by decide +kernel
theorem jF_312_9 : j_F 312 9 = some (.i2l, 1, 0, 0, .null, .int) := by decide +kernel
theorem jF_312_10 : j_F 312 10 = some (.invokestatic 252, 3, 232, 3, .null, .int) := by decide +kernel
theorem jF_312_13 : j_F 312 13 = some (.ireturn, 1, 0, 0, .null, .boolean) := by decide +kernel
theorem jF_319_0 : j_F 319 0 = some (.iload_n 1, 1, 0, 0, .null, .int) := by decide +kernel
theorem jF_319_1 : j_F 319 1 = some (.i2l, 1, 0, 0, .null, .int) := by decide +kernel
theorem jF_319_2 : j_F 319 2 = some (.lconst 1, 1, 0, 0, .null, .int) := by decide +kernel
theorem jF_319_3 : j_F 319 3 = some (.ldc2_w 563, 3, 0, 0, (.long (20)), .int) := by decide +kernel
theorem jF_319_6 : j_F 319 6 = some (.invokestatic 252, 3, 232, 3, .null, .int) := by decide +kernel
theorem jF_319_9 : j_F 319 9 = some (.ifCond .ne 15, 3, 24, 0, .null, .int) := by decide +kernel
theorem jF_319_12 : j_F 319 12 = some (.aload_n 0, 1, 0, 0, .null, .int) := by decide +kernel
theorem jF_319_13 : j_F 319 13 = some (.getfield 17, 3, 12, 9, .null, (.array .int)) := by decide +kernel
theorem jF_319_16 : j_F 319 16 = some (.iconst 2, 1, 0, 0, .null, .int) := by decide +kernel
theorem jF_319_17 : j_F 319 17 = some (.dup2, 1, 0, 0, .null, .int) := by decide +kernel
theorem jF_319_18 : j_F 319 18 = some (.iaload, 1, 0, 0, .null, .int) := by decide +kernel
theorem jF_319_19 : j_F 319 19 = some (.iconst 1, 1, 0, 0, .null, .int) := by decide +kernel
theorem jF_319_20 : j_F 319 20 = some (.iadd, 1, 0, 0, .null, .int) := by decide +kernel
theorem jF_319_21 : j_F 319 21 = some (.iastore, 1, 0, 0, .null, .int) := by decide +kernel
theorem jF_319_22 : j_F 319 22 = some (.iconst (-1), 1, 0, 0, .null, .int) := by decide +kernel
theorem jF_319_23 : j_F 319 23 = some (.ireturn, 1, 0, 0, .null, .int) := by decide +kernel
theorem jF_319_24 : j_F 319 24 = some (.iconst 0, 1, 0, 0, .null, .int) := by decide +kernel
theorem jF_319_25 : j_F 319 25 = some (.istore_n 2, 1, 0, 0, .null, .int) := by decide +kernel
theorem jF_319_26 : j_F 319 26 = some (.iload_n 2, 1, 0, 0, .null, .int) := by decide +kernel
theorem jF_319_27 : j_F 319 27 = some (.iload_n 1, 1, 0, 0, .null, .int) := by decide +kernel
theorem jF_319_28 : j_F 319 28 = some (.if_icmp .ge 25, 3, 53, 0, .null, .int) := by decide +kernel
theorem jF_319_31 : j_F 319 31 = some (.aload_n 0, 1, 0, 0, .null, .int) := by decide +kernel
theorem jF_319_32 : j_F 319 32 = some (.invokevirtual 560, 3, 317, 1, .null, .int) := by decide +kernel
theorem jF_319_35 : j_F 319 35 = some (.ifCond .eq 18, 3, 53, 0, .null, .int) := by decide +kernel
theorem jF_319_53 : j_F 319 53 = some (.iload_n 2, 1, 0, 0, .null, .int) := by decide +kernel
theorem jF_319_54 : j_F 319 54 = some (.ireturn, 1, 0, 0, .null, .int) := by decide +kernel
theorem jF_320_0 : j_F 320 0 = some (.iload_n 1, 1, 0, 0, .null, .int) := by decide +kernel
theorem jF_320_1 : j_F 320 1 = some (.i2l, 1, 0, 0, .null, .int) := by decide +kernel
theorem jF_320_2 : j_F 320 2 = some (.lconst 0, 1, 0, 0, .null, .int) := by decide +kernel
theorem jF_320_3 : j_F 320 3 = some (.ldc2_w 476, 3, 0, 0, (.long (2)), .int) := by decide +kernel
theorem jF_320_6 : j_F 320 6 = some (.invokestatic 252, 3, 232, 3, .null, .int) := by decide +kernel
theorem jF_320_9 : j_F 320 9 = some (.ifCond .ne 5, 3, 14, 0, .null, .int) := by decide +kernel
theorem jF_320_12 : j_F 320 12 = some (.iconst (-1), 1, 0, 0, .null, .int) := by decide +kernel
theorem jF_320_13 : j_F 320 13 = some (.ireturn, 1, 0, 0, .null, .int) := by decide +kernel
theorem jF_320_14 : j_F 320 14 = some (.iconst 0, 1, 0, 0, .null, .int) := by decide +kernel
theorem jF_320_15 : j_F 320 15 = some (.istore_n 2, 1, 0, 0, .null, .int) := by decide +kernel
theorem jF_320_16 : j_F 320 16 = some (.aload_n 0, 1, 0, 0, .null, .int) := by decide +kernel
theorem jF_320_17 : j_F 320 17 = some (.getfield 355, 3, 12, 42, .null, .long) := by decide +kernel
theorem jF_320_20 : j_F 320 20 = some (.lstore_n 3, 1, 0, 0, .null, .int) := by decide +kernel
theorem jF_320_21 : j_F 320 21 = some (.lconst 0, 1, 0, 0, .null, .int) := by decide +kernel
theorem jF_320_22 : j_F 320 22 = some (.lstore 5, 2, 0, 0, .null, .int) := by decide +kernel
theorem jF_320_24 : j_F 320 24 = some (.iconst 0, 1, 0, 0, .null, .int) := by decide +kernel
theorem jF_320_25 : j_F 320 25 = some (.istore 7, 2, 0, 0, .null, .int) := by decide +kernel
theorem jF_320_27 : j_F 320 27 = some (.iload 7, 2, 0, 0, .null, .int) := by decide +kernel
theorem jF_320_29 : j_F 320 29 = some (.aload_n 0, 1, 0, 0, .null, .int) := by decide +kernel
theorem jF_320_30 : j_F 320 30 = some (.getfield 478, 3, 12, 56, .null, .int) := by decide +kernel
theorem jF_320_33 : j_F 320 33 = some (.if_icmp .ge 46, 3, 79, 0, .null, .int) := by decide +kernel
theorem jF_320_79 : j_F 320 79 = some (.iload_n 1, 1, 0, 0, .null, .int) := by decide +kernel
theorem jF_320_80 : j_F 320 80 = some (.ifCond .ne 7, 3, 87, 0, .null, .int) := by decide +kernel
theorem jF_320_83 : j_F 320 83 = some (.iload_n 2, 1, 0, 0, .null, .int) := by decide +kernel
theorem jF_320_84 : j_F 320 84 = some (.goto 28, 3, 112, 0, .null, .int) := by decide +kernel
theorem jF_320_87 : j_F 320 87 = some (.iload_n 1, 1, 0, 0, .null, .int) := by decide +kernel
theorem jF_320_88 : j_F 320 88 = some (.iconst 2, 1, 0, 0, .null, .int) := by decide +kernel
theorem jF_320_89 : j_F 320 89 = some (.if_icmp .ne 11, 3, 100, 0, .null, .int) := by decide +kernel
theorem jF_320_92 : j_F 320 92 = some (.lload 5, 2, 0, 0, .null, .int) := by decide +kernel
theorem jF_320_94 : j_F 320 94 = some (.invokestatic 439, 3, 273, 1, .null, .int) := by decide +kernel
theorem jF_320_97 : j_F 320 97 = some (.goto 15, 3, 112, 0, .null, .int) := by decide +kernel
theorem jF_320_100 : j_F 320 100 = some (.iload_n 2, 1, 0, 0, .null, .int) := by decide +kernel
theorem jF_320_101 : j_F 320 101 = some (.ifCond .ne 7, 3, 108, 0, .null, .int) := by decide +kernel
theorem jF_320_104 : j_F 320 104 = some (.iconst 0, 1, 0, 0, .null, .int) := by decide +kernel
theorem jF_320_105 : j_F 320 105 = some (.goto 7, 3, 112, 0, .null, .int) := by decide +kernel
theorem jF_320_112 : j_F 320 112 = some (.ireturn, 1, 0, 0, .null, .int) := by decide +kernel
theorem jF_322_0 : j_F 322 0 = some (.iload_n 1, 1, 0, 0, .null, .int) := by decide +kernel
theorem jF_322_1 : j_F 322 1 = some (.ifCond .ge 15, 3, 16, 0, .null, .int) := by decide +kernel
theorem jF_322_4 : j_F 322 4 = some (.aload_n 0, 1, 0, 0, .null, .int) := by decide +kernel
theorem jF_322_5 : j_F 322 5 = some (.getfield 17, 3, 12, 9, .null, (.array .int)) := by decide +kernel
theorem jF_322_8 : j_F 322 8 = some (.iconst 4, 1, 0, 0, .null, .int) := by decide +kernel
theorem jF_322_9 : j_F 322 9 = some (.dup2, 1, 0, 0, .null, .int) := by decide +kernel
theorem jF_322_10 : j_F 322 10 = some (.iaload, 1, 0, 0, .null, .int) := by decide +kernel
theorem jF_322_11 : j_F 322 11 = some (.iconst 1, 1, 0, 0, .null, .int) := by decide +kernel
theorem jF_322_12 : j_F 322 12 = some (.iadd, 1, 0, 0, .null, .int) := by decide +kernel
theorem jF_322_13 : j_F 322 13 = some (.iastore, 1, 0, 0, .null, .int) := by decide +kernel
theorem jF_322_14 : j_F 322 14 = some (.iconst 0, 1, 0, 0, .null, .int) := by decide +kernel
theorem jF_322_15 : j_F 322 15 = some (.ireturn, 1, 0, 0, .null, .boolean) := by decide +kernel
theorem jF_322_16 : j_F 322 16 = some (.aload_n 0, 1, 0, 0, .null, .int) := by decide +kernel
theorem jF_322_17 : j_F 322 17 = some (.iload_n 1, 1, 0, 0, .null, .int) := by decide +kernel
theorem jF_322_18 : j_F 322 18 = some (.i2l, 1, 0, 0, .null, .int) := by decide +kernel
theorem jF_322_19 : j_F 322 19 = some (.putfield 136, 3, 12, 66, .null, .long) := by decide +kernel
theorem jF_322_22 : j_F 322 22 = some (.iconst 1, 1, 0, 0, .null, .int) := by decide +kernel
theorem jF_322_23 : j_F 322 23 = some (.ireturn, 1, 0, 0, .null, .boolean) := by decide +kernel
theorem jF_356_0 : j_F 356 0 = some (.iload_n 1, 1, 0, 0, .null, .int) := by decide +kernel
theorem jF_356_1 : j_F 356 1 = some (.ifCond .lt 20, 3, 21, 0, .null, .int) := by decide +kernel
theorem jF_356_4 : j_F 356 4 = some (.iload_n 1, 1, 0, 0, .null, .int) := by decide +kernel
theorem jF_356_5 : j_F 356 5 = some (.aload_n 0, 1, 0, 0, .null, .int) := by decide +kernel
theorem jF_356_6 : j_F 356 6 = some (.getfield 694, 3, 12, 97, .null, .int) := by decide +kernel
theorem jF_356_9 : j_F 356 9 = some (.if_icmp .ge 12, 3, 21, 0, .null, .int) := by decide +kernel
theorem jF_356_21 : j_F 356 21 = some (.iconst (-1), 1, 0, 0, .null, .int) := by decide +kernel
theorem jF_356_22 : j_F 356 22 = some (.ireturn, 1, 0, 0, .null, .int) := by decide +kernel
theorem jF_359_0 : j_F 359 0 = some (.iload_n 1, 1, 0, 0, .null, .int) := by decide +kernel
theorem jF_359_1 : j_F 359 1 = some (.i2l, 1, 0, 0, .null, .int) := by decide +kernel
theorem jF_359_2 : j_F 359 2 = some (.lconst 0, 1, 0, 0, .null, .int) := by decide +kernel
theorem jF_359_3 : j_F 359 3 = some (.ldc2_w 430, 3, 0, 0, (.long (5)), .int) := by decide +kernel
theorem jF_359_6 : j_F 359 6 = some (.invokestatic 252, 3, 232, 3, .null, .int) := by decide +kernel
theorem jF_359_9 : j_F 359 9 = some (.ifCond .eq 12, 3, 21, 0, .null, .int) := by decide +kernel
theorem jF_359_21 : j_F 359 21 = some (.iconst (-1), 1, 0, 0, .null, .int) := by decide +kernel
theorem jF_359_22 : j_F 359 22 = some (.ireturn, 1, 0, 0, .null, .int) := by decide +kernel
