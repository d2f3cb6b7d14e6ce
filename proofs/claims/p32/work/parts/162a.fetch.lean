/-! CODE. -/
theorem jF_30_0 : j_F 30 0 = some (.aload_n 0, 1, 0, 0, .null, .int) := by decide +kernel
theorem jF_30_1 : j_F 30 1 = some (.getfield 11, 3, 8, 0, .null, (.array .int)) := by decide +kernel
theorem jF_30_4 : j_F 30 4 = some (.iconst 0, 1, 0, 0, .null, .int) := by decide +kernel
theorem jF_30_5 : j_F 30 5 = some (.invokestatic 50, 3, 31, 2, .null, .int) := by decide +kernel
theorem jF_30_8 : j_F 30 8 = some (.aload_n 0, 1, 0, 0, .null, .int) := by decide +kernel
theorem jF_30_9 : j_F 30 9 = some (.getfield 15, 3, 8, 1, .null, (.array .int)) := by decide +kernel
theorem jF_30_12 : j_F 30 12 = some (.iconst 0, 1, 0, 0, .null, .int) := by decide +kernel
theorem jF_30_13 : j_F 30 13 = some (.invokestatic 50, 3, 31, 2, .null, .int) := by decide +kernel
theorem jF_30_16 : j_F 30 16 = some (.aload_n 0, 1, 0, 0, .null, .int) := by decide +kernel
theorem jF_30_17 : j_F 30 17 = some (.getfield 27, 3, 8, 5, .null, (.array .long)) := by decide +kernel
theorem jF_30_20 : j_F 30 20 = some (.lconst 0, 1, 0, 0, .null, .int) := by decide +kernel
theorem jF_30_21 : j_F 30 21 = some (.invokestatic 56, 3, 32, 2, .null, .int) := by decide +kernel
theorem jF_30_24 : j_F 30 24 = some (.aload_n 0, 1, 0, 0, .null, .int) := by decide +kernel
theorem jF_30_25 : j_F 30 25 = some (.getfield 36, 3, 8, 6, .null, (.object "HundredWords$Told")) := by decide +kernel
theorem jF_30_28 : j_F 30 28 = some (.invokevirtual 59, 3, 33, 1, .null, .int) := by decide +kernel
theorem jF_30_31 : j_F 30 31 = some (.aload_n 0, 1, 0, 0, .null, .int) := by decide +kernel
theorem jF_30_32 : j_F 30 32 = some (.getfield 40, 3, 8, 7, .null, (.object "HundredWords$Told")) := by decide +kernel
theorem jF_30_35 : j_F 30 35 = some (.invokevirtual 59, 3, 33, 1, .null, .int) := by decide +kernel
theorem jF_30_38 : j_F 30 38 = some (.aload_n 0, 1, 0, 0, .null, .int) := by decide +kernel
theorem jF_30_39 : j_F 30 39 = some (.getfield 43, 3, 8, 8, .null, (.object "HundredWords$Told")) := by decide +kernel
theorem jF_30_42 : j_F 30 42 = some (.invokevirtual 59, 3, 33, 1, .null, .int) := by decide +kernel
theorem jF_30_45 : j_F 30 45 = some (.aload_n 0, 1, 0, 0, .null, .int) := by decide +kernel
theorem jF_30_46 : j_F 30 46 = some (.iconst 0, 1, 0, 0, .null, .int) := by decide +kernel
theorem jF_30_47 : j_F 30 47 = some (.putfield 62, 3, 8, 9, .null, .int) := by decide +kernel
theorem jF_30_50 : j_F 30 50 = some (.aload_n 0, 1, 0, 0, .null, .int) := by decide +kernel
theorem jF_30_51 : j_F 30 51 = some (.bipush 40, 2, 0, 0, .null, .int) := by decide +kernel
theorem jF_30_53 : j_F 30 53 = some (.putfield 46, 3, 8, 10, .null, .int) := by decide +kernel
theorem jF_30_56 : j_F 30 56 = some (.aload_n 0, 1, 0, 0, .null, .int) := by decide +kernel
theorem jF_30_57 : j_F 30 57 = some (.iconst 0, 1, 0, 0, .null, .int) := by decide +kernel
theorem jF_30_58 : j_F 30 58 = some (.putfield 65, 3, 8, 11, .null, .int) := by decide +kernel
theorem jF_30_61 : j_F 30 61 = some (.aload_n 0, 1, 0, 0, .null, .int) := by decide +kernel
theorem jF_30_62 : j_F 30 62 = some (.iconst 0, 1, 0, 0, .null, .int) := by decide +kernel
theorem jF_30_63 : j_F 30 63 = some (.putfield 68, 3, 8, 12, .null, .int) := by decide +kernel
theorem jF_30_66 : j_F 30 66 = some (.aload_n 0, 1, 0, 0, .null, .int) := by decide +kernel
theorem jF_30_67 : j_F 30 67 = some (.lconst 0, 1, 0, 0, .null, .int) := by decide +kernel
theorem jF_30_68 : j_F 30 68 = some (.putfield 71, 3, 8, 13, .null, .long) := by decide +kernel
theorem jF_30_71 : j_F 30 71 = some (.return_, 1, 0, 0, .null, .int) := by decide +kernel
theorem jF_31_0 : j_F 31 0 = some (.iconst 0, 1, 0, 0, .null, .int) := by decide +kernel
theorem jF_31_1 : j_F 31 1 = some (.istore_n 2, 1, 0, 0, .null, .int) := by decide +kernel
theorem jF_31_2 : j_F 31 2 = some (.aload_n 0, 1, 0, 0, .null, .int) := by decide +kernel
theorem jF_31_3 : j_F 31 3 = some (.arraylength, 1, 0, 0, .null, .int) := by decide +kernel
theorem jF_31_4 : j_F 31 4 = some (.istore_n 3, 1, 0, 0, .null, .int) := by decide +kernel
theorem jF_31_5 : j_F 31 5 = some (.iload_n 2, 1, 0, 0, .null, .int) := by decide +kernel
theorem jF_31_6 : j_F 31 6 = some (.iload_n 3, 1, 0, 0, .null, .int) := by decide +kernel
theorem jF_31_7 : j_F 31 7 = some (.if_icmp .ge 13, 3, 20, 0, .null, .int) := by decide +kernel
theorem jF_31_10 : j_F 31 10 = some (.aload_n 0, 1, 0, 0, .null, .int) := by decide +kernel
theorem jF_31_11 : j_F 31 11 = some (.iload_n 2, 1, 0, 0, .null, .int) := by decide +kernel
theorem jF_31_12 : j_F 31 12 = some (.iload_n 1, 1, 0, 0, .null, .int) := by decide +kernel
theorem jF_31_13 : j_F 31 13 = some (.iastore, 1, 0, 0, .null, .int) := by decide +kernel
theorem jF_31_14 : j_F 31 14 = some (.iinc 2 1, 3, 0, 0, .null, .int) := by decide +kernel
theorem jF_31_17 : j_F 31 17 = some (.goto (-12), 3, 5, 0, .null, .int) := by decide +kernel
theorem jF_31_20 : j_F 31 20 = some (.return_, 1, 0, 0, .null, .int) := by decide +kernel
theorem jF_32_0 : j_F 32 0 = some (.iconst 0, 1, 0, 0, .null, .int) := by decide +kernel
theorem jF_32_1 : j_F 32 1 = some (.istore_n 3, 1, 0, 0, .null, .int) := by decide +kernel
theorem jF_32_2 : j_F 32 2 = some (.aload_n 0, 1, 0, 0, .null, .int) := by decide +kernel
theorem jF_32_3 : j_F 32 3 = some (.arraylength, 1, 0, 0, .null, .int) := by decide +kernel
theorem jF_32_4 : j_F 32 4 = some (.istore 4, 2, 0, 0, .null, .int) := by decide +kernel
theorem jF_32_6 : j_F 32 6 = some (.iload_n 3, 1, 0, 0, .null, .int) := by decide +kernel
theorem jF_32_7 : j_F 32 7 = some (.iload 4, 2, 0, 0, .null, .int) := by decide +kernel
theorem jF_32_9 : j_F 32 9 = some (.if_icmp .ge 13, 3, 22, 0, .null, .int) := by decide +kernel
theorem jF_32_12 : j_F 32 12 = some (.aload_n 0, 1, 0, 0, .null, .int) := by decide +kernel
theorem jF_32_13 : j_F 32 13 = some (.iload_n 3, 1, 0, 0, .null, .int) := by decide +kernel
theorem jF_32_14 : j_F 32 14 = some (.lload_n 1, 1, 0, 0, .null, .int) := by decide +kernel
theorem jF_32_15 : j_F 32 15 = some (.lastore, 1, 0, 0, .null, .int) := by decide +kernel
theorem jF_32_16 : j_F 32 16 = some (.iinc 3 1, 3, 0, 0, .null, .int) := by decide +kernel
theorem jF_32_19 : j_F 32 19 = some (.goto (-13), 3, 6, 0, .null, .int) := by decide +kernel
theorem jF_32_22 : j_F 32 22 = some (.return_, 1, 0, 0, .null, .int) := by decide +kernel
theorem jF_33_0 : j_F 33 0 = some (.aload_n 0, 1, 0, 0, .null, .int) := by decide +kernel
theorem jF_33_1 : j_F 33 1 = some (.iconst 0, 1, 0, 0, .null, .int) := by decide +kernel
theorem jF_33_2 : j_F 33 2 = some (.putfield 29, 3, 7, 5, .null, .int) := by decide +kernel
theorem jF_33_5 : j_F 33 5 = some (.aload_n 0, 1, 0, 0, .null, .int) := by decide +kernel
theorem jF_33_6 : j_F 33 6 = some (.lconst 0, 1, 0, 0, .null, .int) := by decide +kernel
theorem jF_33_7 : j_F 33 7 = some (.putfield 33, 3, 7, 6, .null, .long) := by decide +kernel
theorem jF_33_10 : j_F 33 10 = some (.aload_n 0, 1, 0, 0, .null, .int) := by decide +kernel
theorem jF_33_11 : j_F 33 11 = some (.lconst 0, 1, 0, 0, .null, .int) := by decide +kernel
theorem jF_33_12 : j_F 33 12 = some (.putfield 37, 3, 7, 7, .null, .long) := by decide +kernel
theorem jF_33_15 : j_F 33 15 = some (.return_, 1, 0, 0, .null, .int) := by decide +kernel
theorem jF_43_0 : j_F 43 0 = some (.iload_n 1, 1, 0, 0, .null, .int) := by decide +kernel
theorem jF_43_1 : j_F 43 1 = some (.tableswitch 120 0 8 #[51, 51, 51, 67, 120, 82, 96, 104, 112], 51, 0, 0, .null, .int) := by decide +kernel
theorem jF_43_52 : j_F 43 52 = some (.aload_n 0, 1, 0, 0, .null, .int) := by decide +kernel
theorem jF_43_53 : j_F 43 53 = some (.getfield 15, 3, 8, 1, .null, (.array .int)) := by decide +kernel
theorem jF_43_56 : j_F 43 56 = some (.iload_n 1, 1, 0, 0, .null, .int) := by decide +kernel
theorem jF_43_57 : j_F 43 57 = some (.iaload, 1, 0, 0, .null, .int) := by decide +kernel
theorem jF_43_58 : j_F 43 58 = some (.iconst 4, 1, 0, 0, .null, .int) := by decide +kernel
theorem jF_43_59 : j_F 43 59 = some (.if_icmp .lt 7, 3, 66, 0, .null, .int) := by decide +kernel
theorem jF_43_62 : j_F 43 62 = some (.iconst 1, 1, 0, 0, .null, .int) := by decide +kernel
theorem jF_43_63 : j_F 43 63 = some (.goto 4, 3, 67, 0, .null, .int) := by decide +kernel
theorem jF_43_66 : j_F 43 66 = some (.iconst 0, 1, 0, 0, .null, .int) := by decide +kernel
theorem jF_43_67 : j_F 43 67 = some (.ireturn, 1, 0, 0, .null, .boolean) := by decide +kernel
theorem jF_43_68 : j_F 43 68 = some (.aload_n 0, 1, 0, 0, .null, .int) := by decide +kernel
theorem jF_43_69 : j_F 43 69 = some (.getfield 62, 3, 8, 9, .null, .int) := by decide +kernel
theorem jF_43_72 : j_F 43 72 = some (.bipush 6, 2, 0, 0, .null, .int) := by decide +kernel
theorem jF_43_74 : j_F 43 74 = some (.if_icmp .lt 7, 3, 81, 0, .null, .int) := by decide +kernel
theorem jF_43_77 : j_F 43 77 = some (.iconst 1, 1, 0, 0, .null, .int) := by decide +kernel
theorem jF_43_78 : j_F 43 78 = some (.goto 4, 3, 82, 0, .null, .int) := by decide +kernel
theorem jF_43_81 : j_F 43 81 = some (.iconst 0, 1, 0, 0, .null, .int) := by decide +kernel
theorem jF_43_82 : j_F 43 82 = some (.ireturn, 1, 0, 0, .null, .boolean) := by decide +kernel
theorem jF_43_83 : j_F 43 83 = some (.aload_n 0, 1, 0, 0, .null, .int) := by decide +kernel
theorem jF_43_84 : j_F 43 84 = some (.getfield 65, 3, 8, 11, .null, .int) := by decide +kernel
theorem jF_43_87 : j_F 43 87 = some (.iconst 5, 1, 0, 0, .null, .int) := by decide +kernel
theorem jF_43_88 : j_F 43 88 = some (.if_icmp .lt 7, 3, 95, 0, .null, .int) := by decide +kernel
theorem jF_43_91 : j_F 43 91 = some (.iconst 1, 1, 0, 0, .null, .int) := by decide +kernel
theorem jF_43_92 : j_F 43 92 = some (.goto 4, 3, 96, 0, .null, .int) := by decide +kernel
theorem jF_43_95 : j_F 43 95 = some (.iconst 0, 1, 0, 0, .null, .int) := by decide +kernel
theorem jF_43_96 : j_F 43 96 = some (.ireturn, 1, 0, 0, .null, .boolean) := by decide +kernel
theorem jF_43_97 : j_F 43 97 = some (.aload_n 0, 1, 0, 0, .null, .int) := by decide +kernel
theorem jF_43_98 : j_F 43 98 = some (.getfield 36, 3, 8, 6, .null, (.object "HundredWords$Told")) := by decide +kernel
theorem jF_43_101 : j_F 43 101 = some (.invokevirtual 78, 3, 44, 1, .null, .int) := by decide +kernel
theorem jF_43_104 : j_F 43 104 = some (.ireturn, 1, 0, 0, .null, .boolean) := by decide +kernel
theorem jF_43_105 : j_F 43 105 = some (.aload_n 0, 1, 0, 0, .null, .int) := by decide +kernel
theorem jF_43_106 : j_F 43 106 = some (.getfield 40, 3, 8, 7, .null, (.object "HundredWords$Told")) := by decide +kernel
theorem jF_43_109 : j_F 43 109 = some (.invokevirtual 78, 3, 44, 1, .null, .int) := by decide +kernel
theorem jF_43_112 : j_F 43 112 = some (.ireturn, 1, 0, 0, .null, .boolean) := by decide +kernel
theorem jF_43_113 : j_F 43 113 = some (.aload_n 0, 1, 0, 0, .null, .int) := by decide +kernel
theorem jF_43_114 : j_F 43 114 = some (.getfield 43, 3, 8, 8, .null, (.object "HundredWords$Told")) := by decide +kernel
theorem jF_43_117 : j_F 43 117 = some (.invokevirtual 78, 3, 44, 1, .null, .int) := by decide +kernel
theorem jF_43_120 : j_F 43 120 = some (.ireturn, 1, 0, 0, .null, .boolean) := by decide +kernel
theorem jF_43_121 : j_F 43 121 = some (.iconst 0, 1, 0, 0, .null, .int) := by decide +kernel
theorem jF_43_122 : j_F 43 122 = some (.ireturn, 1, 0, 0, .null, .boolean) := by decide +kernel
theorem jF_44_0 : j_F 44 0 = some (.aload_n 0, 1, 0, 0, .null, .int) := by decide +kernel
theorem jF_44_1 : j_F 44 1 = some (.getfield 29, 3, 7, 5, .null, .int) := by decide +kernel
theorem jF_44_4 : j_F 44 4 = some (.aload_n 0, 1, 0, 0, .null, .int) := by decide +kernel
theorem jF_44_5 : j_F 44 5 = some (.getfield 25, 3, 7, 4, .null, (.array .long)) := by decide +kernel
theorem jF_44_8 : j_F 44 8 = some (.arraylength, 1, 0, 0, .null, .int) := by decide +kernel
theorem jF_44_9 : j_F 44 9 = some (.if_icmp .lt 7, 3, 16, 0, .null, .int) := by decide +kernel
theorem jF_44_12 : j_F 44 12 = some (.iconst 1, 1, 0, 0, .null, .int) := by decide +kernel
theorem jF_44_13 : j_F 44 13 = some (.goto 4, 3, 17, 0, .null, .int) := by decide +kernel
theorem jF_44_16 : j_F 44 16 = some (.iconst 0, 1, 0, 0, .null, .int) := by decide +kernel
theorem jF_44_17 : j_F 44 17 = some (.ireturn, 1, 0, 0, .null, .boolean) := by decide +kernel
theorem jF_50_0 : j_F 50 0 = some (.iconst 0, 1, 0, 0, .null, .int) := by decide +kernel
theorem jF_50_1 : j_F 50 1 = some (.istore_n 2, 1, 0, 0, .null, .int) := by decide +kernel
theorem jF_50_2 : j_F 50 2 = some (.iload_n 2, 1, 0, 0, .null, .int) := by decide +kernel
theorem jF_50_3 : j_F 50 3 = some (.aload_n 0, 1, 0, 0, .null, .int) := by decide +kernel
theorem jF_50_4 : j_F 50 4 = some (.getfield 11, 3, 8, 0, .null, (.array .int)) := by decide +kernel
theorem jF_50_7 : j_F 50 7 = some (.arraylength, 1, 0, 0, .null, .int) := by decide +kernel
theorem jF_50_8 : j_F 50 8 = some (.if_icmp .ge 21, 3, 29, 0, .null, .int) := by decide +kernel
theorem jF_50_11 : j_F 50 11 = some (.aload_n 0, 1, 0, 0, .null, .int) := by decide +kernel
theorem jF_50_12 : j_F 50 12 = some (.getfield 11, 3, 8, 0, .null, (.array .int)) := by decide +kernel
theorem jF_50_15 : j_F 50 15 = some (.iload_n 2, 1, 0, 0, .null, .int) := by decide +kernel
theorem jF_50_16 : j_F 50 16 = some (.iaload, 1, 0, 0, .null, .int) := by decide +kernel
theorem jF_50_17 : j_F 50 17 = some (.iload_n 1, 1, 0, 0, .null, .int) := by decide +kernel
theorem jF_50_18 : j_F 50 18 = some (.if_icmp .ne 5, 3, 23, 0, .null, .int) := by decide +kernel
theorem jF_50_21 : j_F 50 21 = some (.iload_n 2, 1, 0, 0, .null, .int) := by decide +kernel
theorem jF_50_22 : j_F 50 22 = some (.ireturn, 1, 0, 0, .null, .int) := by decide +kernel
theorem jF_50_23 : j_F 50 23 = some (.iinc 2 1, 3, 0, 0, .null, .int) := by decide +kernel
theorem jF_50_26 : j_F 50 26 = some (.goto (-24), 3, 2, 0, .null, .int) := by decide +kernel
theorem jF_50_29 : j_F 50 29 = some (.iconst (-1), 1, 0, 0, .null, .int) := by decide +kernel
theorem jF_50_30 : j_F 50 30 = some (.ireturn, 1, 0, 0, .null, .int) := by decide +kernel
theorem jF_51_0 : j_F 51 0 = some (.iload_n 1, 1, 0, 0, .null, .int) := by decide +kernel
theorem jF_51_1 : j_F 51 1 = some (.bipush 20, 2, 0, 0, .null, .int) := by decide +kernel
theorem jF_51_3 : j_F 51 3 = some (.if_icmp .lt 18, 3, 21, 0, .null, .int) := by decide +kernel
theorem jF_51_6 : j_F 51 6 = some (.iload_n 1, 1, 0, 0, .null, .int) := by decide +kernel
theorem jF_51_7 : j_F 51 7 = some (.bipush 20, 2, 0, 0, .null, .int) := by decide +kernel
theorem jF_51_9 : j_F 51 9 = some (.aload_n 0, 1, 0, 0, .null, .int) := by decide +kernel
theorem jF_51_10 : j_F 51 10 = some (.getfield 65, 3, 8, 11, .null, .int) := by decide +kernel
theorem jF_51_13 : j_F 51 13 = some (.iadd, 1, 0, 0, .null, .int) := by decide +kernel
theorem jF_51_14 : j_F 51 14 = some (.if_icmp .ge 7, 3, 21, 0, .null, .int) := by decide +kernel
theorem jF_51_17 : j_F 51 17 = some (.iconst 1, 1, 0, 0, .null, .int) := by decide +kernel
theorem jF_51_18 : j_F 51 18 = some (.goto 4, 3, 22, 0, .null, .int) := by decide +kernel
theorem jF_51_21 : j_F 51 21 = some (.iconst 0, 1, 0, 0, .null, .int) := by decide +kernel
theorem jF_51_22 : j_F 51 22 = some (.ireturn, 1, 0, 0, .null, .boolean) := by decide +kernel
theorem jF_52_0 : j_F 52 0 = some (.aload_n 0, 1, 0, 0, .null, .int) := by decide +kernel
theorem jF_52_1 : j_F 52 1 = some (.getfield 62, 3, 8, 9, .null, .int) := by decide +kernel
theorem jF_52_4 : j_F 52 4 = some (.bipush 6, 2, 0, 0, .null, .int) := by decide +kernel
theorem jF_52_6 : j_F 52 6 = some (.if_icmp .ge 36, 3, 42, 0, .null, .int) := by decide +kernel
theorem jF_52_9 : j_F 52 9 = some (.aload_n 0, 1, 0, 0, .null, .int) := by decide +kernel
theorem jF_52_10 : j_F 52 10 = some (.getfield 11, 3, 8, 0, .null, (.array .int)) := by decide +kernel
theorem jF_52_13 : j_F 52 13 = some (.bipush 12, 2, 0, 0, .null, .int) := by decide +kernel
theorem jF_52_15 : j_F 52 15 = some (.aload_n 0, 1, 0, 0, .null, .int) := by decide +kernel
theorem jF_52_16 : j_F 52 16 = some (.getfield 62, 3, 8, 9, .null, .int) := by decide +kernel
theorem jF_52_19 : j_F 52 19 = some (.iadd, 1, 0, 0, .null, .int) := by decide +kernel
theorem jF_52_20 : j_F 52 20 = some (.iload_n 1, 1, 0, 0, .null, .int) := by decide +kernel
theorem jF_52_21 : j_F 52 21 = some (.iastore, 1, 0, 0, .null, .int) := by decide +kernel
theorem jF_52_22 : j_F 52 22 = some (.aload_n 0, 1, 0, 0, .null, .int) := by decide +kernel
theorem jF_52_23 : j_F 52 23 = some (.getfield 18, 3, 8, 2, .null, (.array .int)) := by decide +kernel
theorem jF_52_26 : j_F 52 26 = some (.aload_n 0, 1, 0, 0, .null, .int) := by decide +kernel
theorem jF_52_27 : j_F 52 27 = some (.getfield 62, 3, 8, 9, .null, .int) := by decide +kernel
theorem jF_52_30 : j_F 52 30 = some (.iload_n 2, 1, 0, 0, .null, .int) := by decide +kernel
theorem jF_52_31 : j_F 52 31 = some (.iastore, 1, 0, 0, .null, .int) := by decide +kernel
theorem jF_52_32 : j_F 52 32 = some (.aload_n 0, 1, 0, 0, .null, .int) := by decide +kernel
theorem jF_52_33 : j_F 52 33 = some (.dup, 1, 0, 0, .null, .int) := by decide +kernel
theorem jF_52_34 : j_F 52 34 = some (.getfield 62, 3, 8, 9, .null, .int) := by decide +kernel
theorem jF_52_37 : j_F 52 37 = some (.iconst 1, 1, 0, 0, .null, .int) := by decide +kernel
theorem jF_52_38 : j_F 52 38 = some (.iadd, 1, 0, 0, .null, .int) := by decide +kernel
theorem jF_52_39 : j_F 52 39 = some (.putfield 62, 3, 8, 9, .null, .int) := by decide +kernel
theorem jF_52_42 : j_F 52 42 = some (.return_, 1, 0, 0, .null, .int) := by decide +kernel
theorem jF_57_0 : j_F 57 0 = some (.aload_n 0, 1, 0, 0, .null, .int) := by decide +kernel
theorem jF_57_1 : j_F 57 1 = some (.getfield 65, 3, 8, 11, .null, .int) := by decide +kernel
theorem jF_57_4 : j_F 57 4 = some (.iconst 5, 1, 0, 0, .null, .int) := by decide +kernel
theorem jF_57_5 : j_F 57 5 = some (.if_icmp .ge 36, 3, 41, 0, .null, .int) := by decide +kernel
theorem jF_57_8 : j_F 57 8 = some (.aload_n 0, 1, 0, 0, .null, .int) := by decide +kernel
theorem jF_57_9 : j_F 57 9 = some (.getfield 11, 3, 8, 0, .null, (.array .int)) := by decide +kernel
theorem jF_57_12 : j_F 57 12 = some (.bipush 20, 2, 0, 0, .null, .int) := by decide +kernel
theorem jF_57_14 : j_F 57 14 = some (.aload_n 0, 1, 0, 0, .null, .int) := by decide +kernel
theorem jF_57_15 : j_F 57 15 = some (.getfield 65, 3, 8, 11, .null, .int) := by decide +kernel
theorem jF_57_18 : j_F 57 18 = some (.iadd, 1, 0, 0, .null, .int) := by decide +kernel
theorem jF_57_19 : j_F 57 19 = some (.iload_n 1, 1, 0, 0, .null, .int) := by decide +kernel
theorem jF_57_20 : j_F 57 20 = some (.iastore, 1, 0, 0, .null, .int) := by decide +kernel
theorem jF_57_21 : j_F 57 21 = some (.aload_n 0, 1, 0, 0, .null, .int) := by decide +kernel
theorem jF_57_22 : j_F 57 22 = some (.getfield 21, 3, 8, 3, .null, (.array .int)) := by decide +kernel
theorem jF_57_25 : j_F 57 25 = some (.aload_n 0, 1, 0, 0, .null, .int) := by decide +kernel
theorem jF_57_26 : j_F 57 26 = some (.getfield 65, 3, 8, 11, .null, .int) := by decide +kernel
theorem jF_57_29 : j_F 57 29 = some (.iload_n 2, 1, 0, 0, .null, .int) := by decide +kernel
theorem jF_57_30 : j_F 57 30 = some (.iastore, 1, 0, 0, .null, .int) := by decide +kernel
theorem jF_57_31 : j_F 57 31 = some (.aload_n 0, 1, 0, 0, .null, .int) := by decide +kernel
theorem jF_57_32 : j_F 57 32 = some (.dup, 1, 0, 0, .null, .int) := by decide +kernel
theorem jF_57_33 : j_F 57 33 = some (.getfield 65, 3, 8, 11, .null, .int) := by decide +kernel
theorem jF_57_36 : j_F 57 36 = some (.iconst 1, 1, 0, 0, .null, .int) := by decide +kernel
theorem jF_57_37 : j_F 57 37 = some (.iadd, 1, 0, 0, .null, .int) := by decide +kernel
theorem jF_57_38 : j_F 57 38 = some (.putfield 65, 3, 8, 11, .null, .int) := by decide +kernel
theorem jF_57_41 : j_F 57 41 = some (.return_, 1, 0, 0, .null, .int) := by decide +kernel
theorem jF_59_0 : j_F 59 0 = some (.aload_n 0, 1, 0, 0, .null, .int) := by decide +kernel
theorem jF_59_1 : j_F 59 1 = some (.invokevirtual 40, 3, 44, 1, .null, .int) := by decide +kernel
theorem jF_59_4 : j_F 59 4 = some (.ifCond .ne 13, 3, 17, 0, .null, .int) := by decide +kernel
theorem jF_59_7 : j_F 59 7 = some (.aload_n 0, 1, 0, 0, .null, .int) := by decide +kernel
theorem jF_59_8 : j_F 59 8 = some (.getfield 19, 3, 7, 2, .null, (.array .int)) := by decide +kernel
theorem jF_59_11 : j_F 59 11 = some (.aload_n 0, 1, 0, 0, .null, .int) := by decide +kernel
theorem jF_59_12 : j_F 59 12 = some (.getfield 29, 3, 7, 5, .null, .int) := by decide +kernel
theorem jF_59_15 : j_F 59 15 = some (.iload_n 1, 1, 0, 0, .null, .int) := by decide +kernel
theorem jF_59_16 : j_F 59 16 = some (.iastore, 1, 0, 0, .null, .int) := by decide +kernel
theorem jF_59_17 : j_F 59 17 = some (.return_, 1, 0, 0, .null, .int) := by decide +kernel
theorem jF_61_0 : j_F 61 0 = some (.aload_n 0, 1, 0, 0, .null, .int) := by decide +kernel
theorem jF_61_1 : j_F 61 1 = some (.invokevirtual 40, 3, 44, 1, .null, .int) := by decide +kernel
theorem jF_61_4 : j_F 61 4 = some (.ifCond .ne 13, 3, 17, 0, .null, .int) := by decide +kernel
theorem jF_61_7 : j_F 61 7 = some (.aload_n 0, 1, 0, 0, .null, .int) := by decide +kernel
theorem jF_61_8 : j_F 61 8 = some (.getfield 9, 3, 7, 0, .null, (.array .boolean)) := by decide +kernel
theorem jF_61_11 : j_F 61 11 = some (.aload_n 0, 1, 0, 0, .null, .int) := by decide +kernel
theorem jF_61_12 : j_F 61 12 = some (.getfield 29, 3, 7, 5, .null, .int) := by decide +kernel
theorem jF_61_15 : j_F 61 15 = some (.iload_n 1, 1, 0, 0, .null, .int) := by decide +kernel
theorem jF_61_16 : j_F 61 16 = some (.bastore, 1, 0, 0, .null, .int) := by decide +kernel
theorem jF_61_17 : j_F 61 17 = some (.return_, 1, 0, 0, .null, .int) := by decide +kernel
theorem jF_63_0 : j_F 63 0 = some (.aload_n 0, 1, 0, 0, .null, .int) := by decide +kernel
theorem jF_63_1 : j_F 63 1 = some (.getfield 29, 3, 7, 5, .null, .int) := by decide +kernel
theorem jF_63_4 : j_F 63 4 = some (.iconst 3, 1, 0, 0, .null, .int) := by decide +kernel
theorem jF_63_5 : j_F 63 5 = some (.imul, 1, 0, 0, .null, .int) := by decide +kernel
theorem jF_63_6 : j_F 63 6 = some (.iload_n 1, 1, 0, 0, .null, .int) := by decide +kernel
theorem jF_63_7 : j_F 63 7 = some (.iadd, 1, 0, 0, .null, .int) := by decide +kernel
theorem jF_63_8 : j_F 63 8 = some (.istore_n 3, 1, 0, 0, .null, .int) := by decide +kernel
theorem jF_63_9 : j_F 63 9 = some (.iload_n 3, 1, 0, 0, .null, .int) := by decide +kernel
theorem jF_63_10 : j_F 63 10 = some (.ifCond .lt 19, 3, 29, 0, .null, .int) := by decide +kernel
theorem jF_63_13 : j_F 63 13 = some (.iload_n 3, 1, 0, 0, .null, .int) := by decide +kernel
theorem jF_63_14 : j_F 63 14 = some (.aload_n 0, 1, 0, 0, .null, .int) := by decide +kernel
theorem jF_63_15 : j_F 63 15 = some (.getfield 15, 3, 7, 1, .null, (.array .int)) := by decide +kernel
theorem jF_63_18 : j_F 63 18 = some (.arraylength, 1, 0, 0, .null, .int) := by decide +kernel
theorem jF_63_19 : j_F 63 19 = some (.if_icmp .ge 10, 3, 29, 0, .null, .int) := by decide +kernel
theorem jF_63_22 : j_F 63 22 = some (.aload_n 0, 1, 0, 0, .null, .int) := by decide +kernel
theorem jF_63_23 : j_F 63 23 = some (.getfield 15, 3, 7, 1, .null, (.array .int)) := by decide +kernel
theorem jF_63_26 : j_F 63 26 = some (.iload_n 3, 1, 0, 0, .null, .int) := by decide +kernel
theorem jF_63_27 : j_F 63 27 = some (.iload_n 2, 1, 0, 0, .null, .int) := by decide +kernel
theorem jF_63_28 : j_F 63 28 = some (.iastore, 1, 0, 0, .null, .int) := by decide +kernel
theorem jF_63_29 : j_F 63 29 = some (.return_, 1, 0, 0, .null, .int) := by decide +kernel
theorem jF_65_0 : j_F 65 0 = some (.aload_n 0, 1, 0, 0, .null, .int) := by decide +kernel
theorem jF_65_1 : j_F 65 1 = some (.invokevirtual 40, 3, 44, 1, .null, .int) := by decide +kernel
theorem jF_65_4 : j_F 65 4 = some (.ifCond .eq 5, 3, 9, 0, .null, .int) := by decide +kernel
theorem jF_65_7 : j_F 65 7 = some (.iconst 0, 1, 0, 0, .null, .int) := by decide +kernel
theorem jF_65_8 : j_F 65 8 = some (.ireturn, 1, 0, 0, .null, .boolean) := by decide +kernel
theorem jF_65_9 : j_F 65 9 = some (.aload_n 0, 1, 0, 0, .null, .int) := by decide +kernel
theorem jF_65_10 : j_F 65 10 = some (.getfield 22, 3, 7, 3, .null, (.array .int)) := by decide +kernel
theorem jF_65_13 : j_F 65 13 = some (.aload_n 0, 1, 0, 0, .null, .int) := by decide +kernel
theorem jF_65_14 : j_F 65 14 = some (.getfield 29, 3, 7, 5, .null, .int) := by decide +kernel
theorem jF_65_17 : j_F 65 17 = some (.iload_n 1, 1, 0, 0, .null, .int) := by decide +kernel
theorem jF_65_18 : j_F 65 18 = some (.iastore, 1, 0, 0, .null, .int) := by decide +kernel
theorem jF_65_19 : j_F 65 19 = some (.aload_n 0, 1, 0, 0, .null, .int) := by decide +kernel
theorem jF_65_20 : j_F 65 20 = some (.dup, 1, 0, 0, .null, .int) := by decide +kernel
theorem jF_65_21 : j_F 65 21 = some (.getfield 29, 3, 7, 5, .null, .int) := by decide +kernel
theorem jF_65_24 : j_F 65 24 = some (.iconst 1, 1, 0, 0, .null, .int) := by decide +kernel
theorem jF_65_25 : j_F 65 25 = some (.iadd, 1, 0, 0, .null, .int) := by decide +kernel
theorem jF_65_26 : j_F 65 26 = some (.putfield 29, 3, 7, 5, .null, .int) := by decide +kernel
theorem jF_65_29 : j_F 65 29 = some (.iconst 1, 1, 0, 0, .null, .int) := by decide +kernel
theorem jF_65_30 : j_F 65 30 = some (.ireturn, 1, 0, 0, .null, .boolean) := by decide +kernel
theorem jF_67_0 : j_F 67 0 = some (.iload_n 1, 1, 0, 0, .null, .int) := by decide +kernel
theorem jF_67_1 : j_F 67 1 = some (.ifCond .lt 42, 3, 43, 0, .null, .int) := by decide +kernel
theorem jF_67_4 : j_F 67 4 = some (.iload_n 1, 1, 0, 0, .null, .int) := by decide +kernel
theorem jF_67_5 : j_F 67 5 = some (.iconst 3, 1, 0, 0, .null, .int) := by decide +kernel
theorem jF_67_6 : j_F 67 6 = some (.if_icmp .ge 37, 3, 43, 0, .null, .int) := by decide +kernel
theorem jF_67_9 : j_F 67 9 = some (.aload_n 0, 1, 0, 0, .null, .int) := by decide +kernel
theorem jF_67_10 : j_F 67 10 = some (.iload_n 1, 1, 0, 0, .null, .int) := by decide +kernel
theorem jF_67_11 : j_F 67 11 = some (.invokevirtual 82, 3, 43, 2, .null, .int) := by decide +kernel
theorem jF_67_14 : j_F 67 14 = some (.ifCond .ne 29, 3, 43, 0, .null, .int) := by decide +kernel
theorem jF_67_17 : j_F 67 17 = some (.aload_n 0, 1, 0, 0, .null, .int) := by decide +kernel
theorem jF_67_18 : j_F 67 18 = some (.getfield 11, 3, 8, 0, .null, (.array .int)) := by decide +kernel
theorem jF_67_21 : j_F 67 21 = some (.iload_n 1, 1, 0, 0, .null, .int) := by decide +kernel
theorem jF_67_22 : j_F 67 22 = some (.iconst 4, 1, 0, 0, .null, .int) := by decide +kernel
theorem jF_67_23 : j_F 67 23 = some (.imul, 1, 0, 0, .null, .int) := by decide +kernel
theorem jF_67_24 : j_F 67 24 = some (.aload_n 0, 1, 0, 0, .null, .int) := by decide +kernel
theorem jF_67_25 : j_F 67 25 = some (.getfield 15, 3, 8, 1, .null, (.array .int)) := by decide +kernel
theorem jF_67_28 : j_F 67 28 = some (.iload_n 1, 1, 0, 0, .null, .int) := by decide +kernel
theorem jF_67_29 : j_F 67 29 = some (.iaload, 1, 0, 0, .null, .int) := by decide +kernel
theorem jF_67_30 : j_F 67 30 = some (.iadd, 1, 0, 0, .null, .int) := by decide +kernel
theorem jF_67_31 : j_F 67 31 = some (.iload_n 2, 1, 0, 0, .null, .int) := by decide +kernel
theorem jF_67_32 : j_F 67 32 = some (.iastore, 1, 0, 0, .null, .int) := by decide +kernel
theorem jF_67_33 : j_F 67 33 = some (.aload_n 0, 1, 0, 0, .null, .int) := by decide +kernel
theorem jF_67_34 : j_F 67 34 = some (.getfield 15, 3, 8, 1, .null, (.array .int)) := by decide +kernel
theorem jF_67_37 : j_F 67 37 = some (.iload_n 1, 1, 0, 0, .null, .int) := by decide +kernel
theorem jF_67_38 : j_F 67 38 = some (.dup2, 1, 0, 0, .null, .int) := by decide +kernel
theorem jF_67_39 : j_F 67 39 = some (.iaload, 1, 0, 0, .null, .int) := by decide +kernel
theorem jF_67_40 : j_F 67 40 = some (.iconst 1, 1, 0, 0, .null, .int) := by decide +kernel
theorem jF_67_41 : j_F 67 41 = some (.iadd, 1, 0, 0, .null, .int) := by decide +kernel
theorem jF_67_42 : j_F 67 42 = some (.iastore, 1, 0, 0, .null, .int) := by decide +kernel
theorem jF_67_43 : j_F 67 43 = some (.return_, 1, 0, 0, .null, .int) := by decide +kernel
theorem jF_69_0 : j_F 69 0 = some (.iconst 0, 1, 0, 0, .null, .int) := by decide +kernel
theorem jF_69_1 : j_F 69 1 = some (.istore_n 1, 1, 0, 0, .null, .int) := by decide +kernel
theorem jF_69_2 : j_F 69 2 = some (.iload_n 1, 1, 0, 0, .null, .int) := by decide +kernel
theorem jF_69_3 : j_F 69 3 = some (.aload_n 0, 1, 0, 0, .null, .int) := by decide +kernel
theorem jF_69_4 : j_F 69 4 = some (.getfield 15, 3, 8, 1, .null, (.array .int)) := by decide +kernel
theorem jF_69_7 : j_F 69 7 = some (.iconst 2, 1, 0, 0, .null, .int) := by decide +kernel
theorem jF_69_8 : j_F 69 8 = some (.iaload, 1, 0, 0, .null, .int) := by decide +kernel
theorem jF_69_9 : j_F 69 9 = some (.if_icmp .ge 112, 3, 121, 0, .null, .int) := by decide +kernel
theorem jF_69_12 : j_F 69 12 = some (.iconst 0, 1, 0, 0, .null, .int) := by decide +kernel
theorem jF_69_13 : j_F 69 13 = some (.istore_n 2, 1, 0, 0, .null, .int) := by decide +kernel
theorem jF_69_14 : j_F 69 14 = some (.iload_n 2, 1, 0, 0, .null, .int) := by decide +kernel
theorem jF_69_15 : j_F 69 15 = some (.aload_n 0, 1, 0, 0, .null, .int) := by decide +kernel
theorem jF_69_16 : j_F 69 16 = some (.getfield 15, 3, 8, 1, .null, (.array .int)) := by decide +kernel
theorem jF_69_19 : j_F 69 19 = some (.iconst 1, 1, 0, 0, .null, .int) := by decide +kernel
theorem jF_69_20 : j_F 69 20 = some (.iaload, 1, 0, 0, .null, .int) := by decide +kernel
theorem jF_69_21 : j_F 69 21 = some (.if_icmp .ge 94, 3, 115, 0, .null, .int) := by decide +kernel
theorem jF_69_24 : j_F 69 24 = some (.iconst 0, 1, 0, 0, .null, .int) := by decide +kernel
theorem jF_69_25 : j_F 69 25 = some (.istore_n 3, 1, 0, 0, .null, .int) := by decide +kernel
theorem jF_69_26 : j_F 69 26 = some (.iload_n 3, 1, 0, 0, .null, .int) := by decide +kernel
theorem jF_69_27 : j_F 69 27 = some (.aload_n 0, 1, 0, 0, .null, .int) := by decide +kernel
theorem jF_69_28 : j_F 69 28 = some (.getfield 15, 3, 8, 1, .null, (.array .int)) := by decide +kernel
theorem jF_69_31 : j_F 69 31 = some (.iconst 0, 1, 0, 0, .null, .int) := by decide +kernel
theorem jF_69_32 : j_F 69 32 = some (.iaload, 1, 0, 0, .null, .int) := by decide +kernel
theorem jF_69_33 : j_F 69 33 = some (.if_icmp .ge 76, 3, 109, 0, .null, .int) := by decide +kernel
theorem jF_69_36 : j_F 69 36 = some (.lconst 1, 1, 0, 0, .null, .int) := by decide +kernel
theorem jF_69_37 : j_F 69 37 = some (.aload_n 0, 1, 0, 0, .null, .int) := by decide +kernel
theorem jF_69_38 : j_F 69 38 = some (.getfield 68, 3, 8, 12, .null, .int) := by decide +kernel
theorem jF_69_41 : j_F 69 41 = some (.lshl, 1, 0, 0, .null, .int) := by decide +kernel
theorem jF_69_42 : j_F 69 42 = some (.lstore 4, 2, 0, 0, .null, .int) := by decide +kernel
theorem jF_69_44 : j_F 69 44 = some (.aload_n 0, 1, 0, 0, .null, .int) := by decide +kernel
theorem jF_69_45 : j_F 69 45 = some (.getfield 27, 3, 8, 5, .null, (.array .long)) := by decide +kernel
theorem jF_69_48 : j_F 69 48 = some (.iload_n 3, 1, 0, 0, .null, .int) := by decide +kernel
theorem jF_69_49 : j_F 69 49 = some (.dup2, 1, 0, 0, .null, .int) := by decide +kernel
theorem jF_69_50 : j_F 69 50 = some (.laload, 1, 0, 0, .null, .int) := by decide +kernel
theorem jF_69_51 : j_F 69 51 = some (.lload 4, 2, 0, 0, .null, .int) := by decide +kernel
theorem jF_69_53 : j_F 69 53 = some (.lor, 1, 0, 0, .null, .int) := by decide +kernel
theorem jF_69_54 : j_F 69 54 = some (.lastore, 1, 0, 0, .null, .int) := by decide +kernel
theorem jF_69_55 : j_F 69 55 = some (.aload_n 0, 1, 0, 0, .null, .int) := by decide +kernel
theorem jF_69_56 : j_F 69 56 = some (.getfield 27, 3, 8, 5, .null, (.array .long)) := by decide +kernel
theorem jF_69_59 : j_F 69 59 = some (.iconst 4, 1, 0, 0, .null, .int) := by decide +kernel
theorem jF_69_60 : j_F 69 60 = some (.iload_n 2, 1, 0, 0, .null, .int) := by decide +kernel
theorem jF_69_61 : j_F 69 61 = some (.iadd, 1, 0, 0, .null, .int) := by decide +kernel
theorem jF_69_62 : j_F 69 62 = some (.dup2, 1, 0, 0, .null, .int) := by decide +kernel
theorem jF_69_63 : j_F 69 63 = some (.laload, 1, 0, 0, .null, .int) := by decide +kernel
theorem jF_69_64 : j_F 69 64 = some (.lload 4, 2, 0, 0, .null, .int) := by decide +kernel
theorem jF_69_66 : j_F 69 66 = some (.lor, 1, 0, 0, .null, .int) := by decide +kernel
theorem jF_69_67 : j_F 69 67 = some (.lastore, 1, 0, 0, .null, .int) := by decide +kernel
theorem jF_69_68 : j_F 69 68 = some (.aload_n 0, 1, 0, 0, .null, .int) := by decide +kernel
theorem jF_69_69 : j_F 69 69 = some (.getfield 27, 3, 8, 5, .null, (.array .long)) := by decide +kernel
theorem jF_69_72 : j_F 69 72 = some (.bipush 8, 2, 0, 0, .null, .int) := by decide +kernel
theorem jF_69_74 : j_F 69 74 = some (.iload_n 1, 1, 0, 0, .null, .int) := by decide +kernel
theorem jF_69_75 : j_F 69 75 = some (.iadd, 1, 0, 0, .null, .int) := by decide +kernel
theorem jF_69_76 : j_F 69 76 = some (.dup2, 1, 0, 0, .null, .int) := by decide +kernel
theorem jF_69_77 : j_F 69 77 = some (.laload, 1, 0, 0, .null, .int) := by decide +kernel
theorem jF_69_78 : j_F 69 78 = some (.lload 4, 2, 0, 0, .null, .int) := by decide +kernel
theorem jF_69_80 : j_F 69 80 = some (.lor, 1, 0, 0, .null, .int) := by decide +kernel
theorem jF_69_81 : j_F 69 81 = some (.lastore, 1, 0, 0, .null, .int) := by decide +kernel
theorem jF_69_82 : j_F 69 82 = some (.aload_n 0, 1, 0, 0, .null, .int) := by decide +kernel
theorem jF_69_83 : j_F 69 83 = some (.dup, 1, 0, 0, .null, .int) := by decide +kernel
theorem jF_69_84 : j_F 69 84 = some (.getfield 71, 3, 8, 13, .null, .long) := by decide +kernel
theorem jF_69_87 : j_F 69 87 = some (.lload 4, 2, 0, 0, .null, .int) := by decide +kernel
theorem jF_69_89 : j_F 69 89 = some (.lor, 1, 0, 0, .null, .int) := by decide +kernel
theorem jF_69_90 : j_F 69 90 = some (.putfield 71, 3, 8, 13, .null, .long) := by decide +kernel
theorem jF_69_93 : j_F 69 93 = some (.aload_n 0, 1, 0, 0, .null, .int) := by decide +kernel
theorem jF_69_94 : j_F 69 94 = some (.dup, 1, 0, 0, .null, .int) := by decide +kernel
theorem jF_69_95 : j_F 69 95 = some (.getfield 68, 3, 8, 12, .null, .int) := by decide +kernel
theorem jF_69_98 : j_F 69 98 = some (.iconst 1, 1, 0, 0, .null, .int) := by decide +kernel
theorem jF_69_99 : j_F 69 99 = some (.iadd, 1, 0, 0, .null, .int) := by decide +kernel
theorem jF_69_100 : j_F 69 100 = some (.putfield 68, 3, 8, 12, .null, .int) := by decide +kernel
theorem jF_69_103 : j_F 69 103 = some (.iinc 3 1, 3, 0, 0, .null, .int) := by decide +kernel
theorem jF_69_106 : j_F 69 106 = some (.goto (-80), 3, 26, 0, .null, .int) := by decide +kernel
theorem jF_69_109 : j_F 69 109 = some (.iinc 2 1, 3, 0, 0, .null, .int) := by decide +kernel
theorem jF_69_112 : j_F 69 112 = some (.goto (-98), 3, 14, 0, .null, .int) := by decide +kernel
theorem jF_69_115 : j_F 69 115 = some (.iinc 1 1, 3, 0, 0, .null, .int) := by decide +kernel
theorem jF_69_118 : j_F 69 118 = some (.goto (-116), 3, 2, 0, .null, .int) := by decide +kernel
theorem jF_69_121 : j_F 69 121 = some (.iconst 0, 1, 0, 0, .null, .int) := by decide +kernel
theorem jF_69_122 : j_F 69 122 = some (.istore_n 1, 1, 0, 0, .null, .int) := by decide +kernel
theorem jF_69_123 : j_F 69 123 = some (.iload_n 1, 1, 0, 0, .null, .int) := by decide +kernel
theorem jF_69_124 : j_F 69 124 = some (.aload_n 0, 1, 0, 0, .null, .int) := by decide +kernel
theorem jF_69_125 : j_F 69 125 = some (.getfield 62, 3, 8, 9, .null, .int) := by decide +kernel
theorem jF_69_128 : j_F 69 128 = some (.if_icmp .ge 51, 3, 179, 0, .null, .int) := by decide +kernel
theorem jF_69_131 : j_F 69 131 = some (.aload_n 0, 1, 0, 0, .null, .int) := by decide +kernel
theorem jF_69_132 : j_F 69 132 = some (.getfield 18, 3, 8, 2, .null, (.array .int)) := by decide +kernel
theorem jF_69_135 : j_F 69 135 = some (.iload_n 1, 1, 0, 0, .null, .int) := by decide +kernel
theorem jF_69_136 : j_F 69 136 = some (.iaload, 1, 0, 0, .null, .int) := by decide +kernel
theorem jF_69_137 : j_F 69 137 = some (.ifCond .lt 36, 3, 173, 0, .null, .int) := by decide +kernel
theorem jF_69_140 : j_F 69 140 = some (.aload_n 0, 1, 0, 0, .null, .int) := by decide +kernel
theorem jF_69_141 : j_F 69 141 = some (.getfield 18, 3, 8, 2, .null, (.array .int)) := by decide +kernel
theorem jF_69_144 : j_F 69 144 = some (.iload_n 1, 1, 0, 0, .null, .int) := by decide +kernel
theorem jF_69_145 : j_F 69 145 = some (.iaload, 1, 0, 0, .null, .int) := by decide +kernel
theorem jF_69_146 : j_F 69 146 = some (.bipush 12, 2, 0, 0, .null, .int) := by decide +kernel
theorem jF_69_148 : j_F 69 148 = some (.iload_n 1, 1, 0, 0, .null, .int) := by decide +kernel
theorem jF_69_149 : j_F 69 149 = some (.iadd, 1, 0, 0, .null, .int) := by decide +kernel
theorem jF_69_150 : j_F 69 150 = some (.if_icmp .ge 23, 3, 173, 0, .null, .int) := by decide +kernel
theorem jF_69_153 : j_F 69 153 = some (.aload_n 0, 1, 0, 0, .null, .int) := by decide +kernel
theorem jF_69_154 : j_F 69 154 = some (.getfield 27, 3, 8, 5, .null, (.array .long)) := by decide +kernel
theorem jF_69_157 : j_F 69 157 = some (.bipush 12, 2, 0, 0, .null, .int) := by decide +kernel
theorem jF_69_159 : j_F 69 159 = some (.iload_n 1, 1, 0, 0, .null, .int) := by decide +kernel
theorem jF_69_160 : j_F 69 160 = some (.iadd, 1, 0, 0, .null, .int) := by decide +kernel
theorem jF_69_161 : j_F 69 161 = some (.aload_n 0, 1, 0, 0, .null, .int) := by decide +kernel
theorem jF_69_162 : j_F 69 162 = some (.getfield 27, 3, 8, 5, .null, (.array .long)) := by decide +kernel
theorem jF_69_165 : j_F 69 165 = some (.aload_n 0, 1, 0, 0, .null, .int) := by decide +kernel
theorem jF_69_166 : j_F 69 166 = some (.getfield 18, 3, 8, 2, .null, (.array .int)) := by decide +kernel
theorem jF_69_169 : j_F 69 169 = some (.iload_n 1, 1, 0, 0, .null, .int) := by decide +kernel
theorem jF_69_170 : j_F 69 170 = some (.iaload, 1, 0, 0, .null, .int) := by decide +kernel
theorem jF_69_171 : j_F 69 171 = some (.laload, 1, 0, 0, .null, .int) := by decide +kernel
theorem jF_69_172 : j_F 69 172 = some (.lastore, 1, 0, 0, .null, .int) := by decide +kernel
theorem jF_69_173 : j_F 69 173 = some (.iinc 1 1, 3, 0, 0, .null, .int) := by decide +kernel
theorem jF_69_176 : j_F 69 176 = some (.goto (-53), 3, 123, 0, .null, .int) := by decide +kernel
theorem jF_69_179 : j_F 69 179 = some (.aload_n 0, 1, 0, 0, .null, .int) := by decide +kernel
theorem jF_69_180 : j_F 69 180 = some (.getfield 36, 3, 8, 6, .null, (.object "HundredWords$Told")) := by decide +kernel
theorem jF_69_183 : j_F 69 183 = some (.aload_n 0, 1, 0, 0, .null, .int) := by decide +kernel
theorem jF_69_184 : j_F 69 184 = some (.getfield 71, 3, 8, 13, .null, .long) := by decide +kernel
theorem jF_69_187 : j_F 69 187 = some (.aload_n 0, 1, 0, 0, .null, .int) := by decide +kernel
theorem jF_69_188 : j_F 69 188 = some (.getfield 27, 3, 8, 5, .null, (.array .long)) := by decide +kernel
theorem jF_69_191 : j_F 69 191 = some (.invokevirtual 85, 3, 70, 3, .null, .int) := by decide +kernel
theorem jF_69_194 : j_F 69 194 = some (.aload_n 0, 1, 0, 0, .null, .int) := by decide +kernel
theorem jF_69_195 : j_F 69 195 = some (.getfield 40, 3, 8, 7, .null, (.object "HundredWords$Told")) := by decide +kernel
theorem jF_69_198 : j_F 69 198 = some (.aload_n 0, 1, 0, 0, .null, .int) := by decide +kernel
theorem jF_69_199 : j_F 69 199 = some (.getfield 71, 3, 8, 13, .null, .long) := by decide +kernel
theorem jF_69_202 : j_F 69 202 = some (.aload_n 0, 1, 0, 0, .null, .int) := by decide +kernel
theorem jF_69_203 : j_F 69 203 = some (.getfield 27, 3, 8, 5, .null, (.array .long)) := by decide +kernel
theorem jF_69_206 : j_F 69 206 = some (.invokevirtual 85, 3, 70, 3, .null, .int) := by decide +kernel
theorem jF_69_209 : j_F 69 209 = some (.aload_n 0, 1, 0, 0, .null, .int) := by decide +kernel
theorem jF_69_210 : j_F 69 210 = some (.getfield 43, 3, 8, 8, .null, (.object "HundredWords$Told")) := by decide +kernel
theorem jF_69_213 : j_F 69 213 = some (.aload_n 0, 1, 0, 0, .null, .int) := by decide +kernel
theorem jF_69_214 : j_F 69 214 = some (.getfield 71, 3, 8, 13, .null, .long) := by decide +kernel
theorem jF_69_217 : j_F 69 217 = some (.aload_n 0, 1, 0, 0, .null, .int) := by decide +kernel
theorem jF_69_218 : j_F 69 218 = some (.getfield 27, 3, 8, 5, .null, (.array .long)) := by decide +kernel
theorem jF_69_221 : j_F 69 221 = some (.invokevirtual 85, 3, 70, 3, .null, .int) := by decide +kernel
theorem jF_69_224 : j_F 69 224 = some (.return_, 1, 0, 0, .null, .int) := by decide +kernel
theorem jF_70_0 : j_F 70 0 = some (.iconst 0, 1, 0, 0, .null, .int) := by decide +kernel
theorem jF_70_1 : j_F 70 1 = some (.istore 4, 2, 0, 0, .null, .int) := by decide +kernel
theorem jF_70_3 : j_F 70 3 = some (.iload 4, 2, 0, 0, .null, .int) := by decide +kernel
theorem jF_70_5 : j_F 70 5 = some (.aload_n 0, 1, 0, 0, .null, .int) := by decide +kernel
theorem jF_70_6 : j_F 70 6 = some (.getfield 29, 3, 7, 5, .null, .int) := by decide +kernel
theorem jF_70_9 : j_F 70 9 = some (.if_icmp .ge 135, 3, 144, 0, .null, .int) := by decide +kernel
theorem jF_70_12 : j_F 70 12 = some (.aload_n 0, 1, 0, 0, .null, .int) := by decide +kernel
theorem jF_70_13 : j_F 70 13 = some (.getfield 25, 3, 7, 4, .null, (.array .long)) := by decide +kernel
theorem jF_70_16 : j_F 70 16 = some (.iload 4, 2, 0, 0, .null, .int) := by decide +kernel
theorem jF_70_18 : j_F 70 18 = some (.lload_n 1, 1, 0, 0, .null, .int) := by decide +kernel
theorem jF_70_19 : j_F 70 19 = some (.lastore, 1, 0, 0, .null, .int) := by decide +kernel
theorem jF_70_20 : j_F 70 20 = some (.iload 4, 2, 0, 0, .null, .int) := by decide +kernel
theorem jF_70_22 : j_F 70 22 = some (.iconst 3, 1, 0, 0, .null, .int) := by decide +kernel
theorem jF_70_23 : j_F 70 23 = some (.imul, 1, 0, 0, .null, .int) := by decide +kernel
theorem jF_70_24 : j_F 70 24 = some (.istore 5, 2, 0, 0, .null, .int) := by decide +kernel
theorem jF_70_26 : j_F 70 26 = some (.iload 5, 2, 0, 0, .null, .int) := by decide +kernel
theorem jF_70_28 : j_F 70 28 = some (.iload 4, 2, 0, 0, .null, .int) := by decide +kernel
theorem jF_70_30 : j_F 70 30 = some (.iconst 1, 1, 0, 0, .null, .int) := by decide +kernel
theorem jF_70_31 : j_F 70 31 = some (.iadd, 1, 0, 0, .null, .int) := by decide +kernel
theorem jF_70_32 : j_F 70 32 = some (.iconst 3, 1, 0, 0, .null, .int) := by decide +kernel
theorem jF_70_33 : j_F 70 33 = some (.imul, 1, 0, 0, .null, .int) := by decide +kernel
theorem jF_70_34 : j_F 70 34 = some (.if_icmp .ge 44, 3, 78, 0, .null, .int) := by decide +kernel
theorem jF_70_37 : j_F 70 37 = some (.aload_n 0, 1, 0, 0, .null, .int) := by decide +kernel
theorem jF_70_38 : j_F 70 38 = some (.getfield 15, 3, 7, 1, .null, (.array .int)) := by decide +kernel
theorem jF_70_41 : j_F 70 41 = some (.iload 5, 2, 0, 0, .null, .int) := by decide +kernel
theorem jF_70_43 : j_F 70 43 = some (.iaload, 1, 0, 0, .null, .int) := by decide +kernel
theorem jF_70_44 : j_F 70 44 = some (.istore 6, 2, 0, 0, .null, .int) := by decide +kernel
theorem jF_70_46 : j_F 70 46 = some (.iload 6, 2, 0, 0, .null, .int) := by decide +kernel
theorem jF_70_48 : j_F 70 48 = some (.ifCond .lt 24, 3, 72, 0, .null, .int) := by decide +kernel
theorem jF_70_51 : j_F 70 51 = some (.iload 6, 2, 0, 0, .null, .int) := by decide +kernel
theorem jF_70_53 : j_F 70 53 = some (.aload_n 3, 1, 0, 0, .null, .int) := by decide +kernel
theorem jF_70_54 : j_F 70 54 = some (.arraylength, 1, 0, 0, .null, .int) := by decide +kernel
theorem jF_70_55 : j_F 70 55 = some (.if_icmp .ge 17, 3, 72, 0, .null, .int) := by decide +kernel
theorem jF_70_58 : j_F 70 58 = some (.aload_n 0, 1, 0, 0, .null, .int) := by decide +kernel
theorem jF_70_59 : j_F 70 59 = some (.getfield 25, 3, 7, 4, .null, (.array .long)) := by decide +kernel
theorem jF_70_62 : j_F 70 62 = some (.iload 4, 2, 0, 0, .null, .int) := by decide +kernel
theorem jF_70_64 : j_F 70 64 = some (.dup2, 1, 0, 0, .null, .int) := by decide +kernel
theorem jF_70_65 : j_F 70 65 = some (.laload, 1, 0, 0, .null, .int) := by decide +kernel
theorem jF_70_66 : j_F 70 66 = some (.aload_n 3, 1, 0, 0, .null, .int) := by decide +kernel
theorem jF_70_67 : j_F 70 67 = some (.iload 6, 2, 0, 0, .null, .int) := by decide +kernel
theorem jF_70_69 : j_F 70 69 = some (.laload, 1, 0, 0, .null, .int) := by decide +kernel
theorem jF_70_70 : j_F 70 70 = some (.land, 1, 0, 0, .null, .int) := by decide +kernel
theorem jF_70_71 : j_F 70 71 = some (.lastore, 1, 0, 0, .null, .int) := by decide +kernel
theorem jF_70_72 : j_F 70 72 = some (.iinc 5 1, 3, 0, 0, .null, .int) := by decide +kernel
theorem jF_70_75 : j_F 70 75 = some (.goto (-49), 3, 26, 0, .null, .int) := by decide +kernel
theorem jF_70_78 : j_F 70 78 = some (.aload_n 0, 1, 0, 0, .null, .int) := by decide +kernel
theorem jF_70_79 : j_F 70 79 = some (.dup, 1, 0, 0, .null, .int) := by decide +kernel
theorem jF_70_80 : j_F 70 80 = some (.getfield 33, 3, 7, 6, .null, .long) := by decide +kernel
theorem jF_70_83 : j_F 70 83 = some (.aload_n 0, 1, 0, 0, .null, .int) := by decide +kernel
theorem jF_70_84 : j_F 70 84 = some (.getfield 9, 3, 7, 0, .null, (.array .boolean)) := by decide +kernel
theorem jF_70_87 : j_F 70 87 = some (.iload 4, 2, 0, 0, .null, .int) := by decide +kernel
theorem jF_70_89 : j_F 70 89 = some (.baload, 1, 0, 0, .null, .int) := by decide +kernel
theorem jF_70_90 : j_F 70 90 = some (.ifCond .eq 13, 3, 103, 0, .null, .int) := by decide +kernel
theorem jF_70_93 : j_F 70 93 = some (.aload_n 0, 1, 0, 0, .null, .int) := by decide +kernel
theorem jF_70_94 : j_F 70 94 = some (.getfield 25, 3, 7, 4, .null, (.array .long)) := by decide +kernel
theorem jF_70_97 : j_F 70 97 = some (.iload 4, 2, 0, 0, .null, .int) := by decide +kernel
theorem jF_70_99 : j_F 70 99 = some (.laload, 1, 0, 0, .null, .int) := by decide +kernel
theorem jF_70_100 : j_F 70 100 = some (.goto 4, 3, 104, 0, .null, .int) := by decide +kernel
theorem jF_70_103 : j_F 70 103 = some (.lconst 0, 1, 0, 0, .null, .int) := by decide +kernel
theorem jF_70_104 : j_F 70 104 = some (.lor, 1, 0, 0, .null, .int) := by decide +kernel
theorem jF_70_105 : j_F 70 105 = some (.putfield 33, 3, 7, 6, .null, .long) := by decide +kernel
theorem jF_70_108 : j_F 70 108 = some (.aload_n 0, 1, 0, 0, .null, .int) := by decide +kernel
theorem jF_70_109 : j_F 70 109 = some (.dup, 1, 0, 0, .null, .int) := by decide +kernel
theorem jF_70_110 : j_F 70 110 = some (.getfield 37, 3, 7, 7, .null, .long) := by decide +kernel
theorem jF_70_113 : j_F 70 113 = some (.aload_n 0, 1, 0, 0, .null, .int) := by decide +kernel
theorem jF_70_114 : j_F 70 114 = some (.getfield 9, 3, 7, 0, .null, (.array .boolean)) := by decide +kernel
theorem jF_70_117 : j_F 70 117 = some (.iload 4, 2, 0, 0, .null, .int) := by decide +kernel
theorem jF_70_119 : j_F 70 119 = some (.baload, 1, 0, 0, .null, .int) := by decide +kernel
theorem jF_70_120 : j_F 70 120 = some (.ifCond .eq 7, 3, 127, 0, .null, .int) := by decide +kernel
theorem jF_70_123 : j_F 70 123 = some (.lconst 0, 1, 0, 0, .null, .int) := by decide +kernel
theorem jF_70_124 : j_F 70 124 = some (.goto 10, 3, 134, 0, .null, .int) := by decide +kernel
theorem jF_70_127 : j_F 70 127 = some (.aload_n 0, 1, 0, 0, .null, .int) := by decide +kernel
theorem jF_70_128 : j_F 70 128 = some (.getfield 25, 3, 7, 4, .null, (.array .long)) := by decide +kernel
theorem jF_70_131 : j_F 70 131 = some (.iload 4, 2, 0, 0, .null, .int) := by decide +kernel
theorem jF_70_133 : j_F 70 133 = some (.laload, 1, 0, 0, .null, .int) := by decide +kernel
theorem jF_70_134 : j_F 70 134 = some (.lor, 1, 0, 0, .null, .int) := by decide +kernel
theorem jF_70_135 : j_F 70 135 = some (.putfield 37, 3, 7, 7, .null, .long) := by decide +kernel
theorem jF_70_138 : j_F 70 138 = some (.iinc 4 1, 3, 0, 0, .null, .int) := by decide +kernel
theorem jF_70_141 : j_F 70 141 = some (.goto (-138), 3, 3, 0, .null, .int) := by decide +kernel
theorem jF_70_144 : j_F 70 144 = some (.return_, 1, 0, 0, .null, .int) := by decide +kernel
theorem jF_85_0 : j_F 85 0 = some (.aload_n 0, 1, 0, 0, .null, .int) := by decide +kernel
theorem jF_85_1 : j_F 85 1 = some (.getfield 40, 3, 8, 7, .null, (.object "HundredWords$Told")) := by decide +kernel
theorem jF_85_4 : j_F 85 4 = some (.lload_n 1, 1, 0, 0, .null, .int) := by decide +kernel
theorem jF_85_5 : j_F 85 5 = some (.invokevirtual 91, 3, 86, 2, .null, .int) := by decide +kernel
theorem jF_85_8 : j_F 85 8 = some (.ireturn, 1, 0, 0, .null, .boolean) := by decide +kernel
theorem jF_86_0 : j_F 86 0 = some (.aload_n 0, 1, 0, 0, .null, .int) := by decide +kernel
theorem jF_86_1 : j_F 86 1 = some (.getfield 33, 3, 7, 6, .null, .long) := by decide +kernel
theorem jF_86_4 : j_F 86 4 = some (.lload_n 1, 1, 0, 0, .null, .int) := by decide +kernel
theorem jF_86_5 : j_F 86 5 = some (.ldc2_w 44, 3, 0, 0, (.long (-1)), .int) := by decide +kernel
theorem jF_86_8 : j_F 86 8 = some (.lxor, 1, 0, 0, .null, .int) := by decide +kernel
theorem jF_86_9 : j_F 86 9 = some (.land, 1, 0, 0, .null, .int) := by decide +kernel
theorem jF_86_10 : j_F 86 10 = some (.lconst 0, 1, 0, 0, .null, .int) := by decide +kernel
theorem jF_86_11 : j_F 86 11 = some (.lcmp, 1, 0, 0, .null, .int) := by decide +kernel
theorem jF_86_12 : j_F 86 12 = some (.ifCond .ne 18, 3, 30, 0, .null, .int) := by decide +kernel
theorem jF_86_15 : j_F 86 15 = some (.aload_n 0, 1, 0, 0, .null, .int) := by decide +kernel
theorem jF_86_16 : j_F 86 16 = some (.getfield 37, 3, 7, 7, .null, .long) := by decide +kernel
theorem jF_86_19 : j_F 86 19 = some (.lload_n 1, 1, 0, 0, .null, .int) := by decide +kernel
theorem jF_86_20 : j_F 86 20 = some (.land, 1, 0, 0, .null, .int) := by decide +kernel
theorem jF_86_21 : j_F 86 21 = some (.lconst 0, 1, 0, 0, .null, .int) := by decide +kernel
theorem jF_86_22 : j_F 86 22 = some (.lcmp, 1, 0, 0, .null, .int) := by decide +kernel
theorem jF_86_23 : j_F 86 23 = some (.ifCond .ne 7, 3, 30, 0, .null, .int) := by decide +kernel
theorem jF_86_26 : j_F 86 26 = some (.iconst 1, 1, 0, 0, .null, .int) := by decide +kernel
theorem jF_86_27 : j_F 86 27 = some (.goto 4, 3, 31, 0, .null, .int) := by decide +kernel
theorem jF_86_30 : j_F 86 30 = some (.iconst 0, 1, 0, 0, .null, .int) := by decide +kernel
theorem jF_86_31 : j_F 86 31 = some (.ireturn, 1, 0, 0, .null, .boolean) := by decide +kernel
theorem jF_91_0 : j_F 91 0 = some (.iload_n 1, 1, 0, 0, .null, .int) := by decide +kernel
theorem jF_91_1 : j_F 91 1 = some (.tableswitch 106 0 9 #[55, 55, 55, 62, 67, 72, 77, 85, 93, 101], 55, 0, 0, .null, .int) := by decide +kernel
theorem jF_91_56 : j_F 91 56 = some (.aload_n 0, 1, 0, 0, .null, .int) := by decide +kernel
theorem jF_91_57 : j_F 91 57 = some (.getfield 15, 3, 8, 1, .null, (.array .int)) := by decide +kernel
theorem jF_91_60 : j_F 91 60 = some (.iload_n 1, 1, 0, 0, .null, .int) := by decide +kernel
theorem jF_91_61 : j_F 91 61 = some (.iaload, 1, 0, 0, .null, .int) := by decide +kernel
theorem jF_91_62 : j_F 91 62 = some (.ireturn, 1, 0, 0, .null, .int) := by decide +kernel
theorem jF_91_63 : j_F 91 63 = some (.aload_n 0, 1, 0, 0, .null, .int) := by decide +kernel
theorem jF_91_64 : j_F 91 64 = some (.getfield 62, 3, 8, 9, .null, .int) := by decide +kernel
theorem jF_91_67 : j_F 91 67 = some (.ireturn, 1, 0, 0, .null, .int) := by decide +kernel
theorem jF_91_68 : j_F 91 68 = some (.aload_n 0, 1, 0, 0, .null, .int) := by decide +kernel
theorem jF_91_69 : j_F 91 69 = some (.getfield 46, 3, 8, 10, .null, .int) := by decide +kernel
theorem jF_91_72 : j_F 91 72 = some (.ireturn, 1, 0, 0, .null, .int) := by decide +kernel
theorem jF_91_73 : j_F 91 73 = some (.aload_n 0, 1, 0, 0, .null, .int) := by decide +kernel
theorem jF_91_74 : j_F 91 74 = some (.getfield 65, 3, 8, 11, .null, .int) := by decide +kernel
theorem jF_91_77 : j_F 91 77 = some (.ireturn, 1, 0, 0, .null, .int) := by decide +kernel
theorem jF_91_78 : j_F 91 78 = some (.aload_n 0, 1, 0, 0, .null, .int) := by decide +kernel
theorem jF_91_79 : j_F 91 79 = some (.getfield 36, 3, 8, 6, .null, (.object "HundredWords$Told")) := by decide +kernel
theorem jF_91_82 : j_F 91 82 = some (.getfield 75, 3, 7, 5, .null, .int) := by decide +kernel
theorem jF_91_85 : j_F 91 85 = some (.ireturn, 1, 0, 0, .null, .int) := by decide +kernel
theorem jF_91_86 : j_F 91 86 = some (.aload_n 0, 1, 0, 0, .null, .int) := by decide +kernel
theorem jF_91_87 : j_F 91 87 = some (.getfield 40, 3, 8, 7, .null, (.object "HundredWords$Told")) := by decide +kernel
theorem jF_91_90 : j_F 91 90 = some (.getfield 75, 3, 7, 5, .null, .int) := by decide +kernel
theorem jF_91_93 : j_F 91 93 = some (.ireturn, 1, 0, 0, .null, .int) := by decide +kernel
theorem jF_91_94 : j_F 91 94 = some (.aload_n 0, 1, 0, 0, .null, .int) := by decide +kernel
theorem jF_91_95 : j_F 91 95 = some (.getfield 43, 3, 8, 8, .null, (.object "HundredWords$Told")) := by decide +kernel
theorem jF_91_98 : j_F 91 98 = some (.getfield 75, 3, 7, 5, .null, .int) := by decide +kernel
theorem jF_91_101 : j_F 91 101 = some (.ireturn, 1, 0, 0, .null, .int) := by decide +kernel
theorem jF_91_102 : j_F 91 102 = some (.aload_n 0, 1, 0, 0, .null, .int) := by decide +kernel
theorem jF_91_103 : j_F 91 103 = some (.getfield 68, 3, 8, 12, .null, .int) := by decide +kernel
theorem jF_91_106 : j_F 91 106 = some (.ireturn, 1, 0, 0, .null, .int) := by decide +kernel
theorem jF_91_107 : j_F 91 107 = some (.iconst (-1), 1, 0, 0, .null, .int) := by decide +kernel
theorem jF_91_108 : j_F 91 108 = some (.ireturn, 1, 0, 0, .null, .int) := by decide +kernel
theorem jF_93_0 : j_F 93 0 = some (.iload_n 1, 1, 0, 0, .null, .int) := by decide +kernel
theorem jF_93_1 : j_F 93 1 = some (.ifCond .lt 31, 3, 32, 0, .null, .int) := by decide +kernel
theorem jF_93_4 : j_F 93 4 = some (.iload_n 1, 1, 0, 0, .null, .int) := by decide +kernel
theorem jF_93_5 : j_F 93 5 = some (.aload_n 0, 1, 0, 0, .null, .int) := by decide +kernel
theorem jF_93_6 : j_F 93 6 = some (.getfield 11, 3, 8, 0, .null, (.array .int)) := by decide +kernel
theorem jF_93_9 : j_F 93 9 = some (.arraylength, 1, 0, 0, .null, .int) := by decide +kernel
theorem jF_93_10 : j_F 93 10 = some (.if_icmp .ge 22, 3, 32, 0, .null, .int) := by decide +kernel
theorem jF_93_13 : j_F 93 13 = some (.iload_n 2, 1, 0, 0, .null, .int) := by decide +kernel
theorem jF_93_14 : j_F 93 14 = some (.ifCond .lt 18, 3, 32, 0, .null, .int) := by decide +kernel
theorem jF_93_17 : j_F 93 17 = some (.iload_n 2, 1, 0, 0, .null, .int) := by decide +kernel
theorem jF_93_18 : j_F 93 18 = some (.bipush 6, 2, 0, 0, .null, .int) := by decide +kernel
theorem jF_93_20 : j_F 93 20 = some (.if_icmp .ge 12, 3, 32, 0, .null, .int) := by decide +kernel
theorem jF_93_23 : j_F 93 23 = some (.aload_n 0, 1, 0, 0, .null, .int) := by decide +kernel
theorem jF_93_24 : j_F 93 24 = some (.getfield 11, 3, 8, 0, .null, (.array .int)) := by decide +kernel
theorem jF_93_27 : j_F 93 27 = some (.iload_n 1, 1, 0, 0, .null, .int) := by decide +kernel
theorem jF_93_28 : j_F 93 28 = some (.iaload, 1, 0, 0, .null, .int) := by decide +kernel
theorem jF_93_29 : j_F 93 29 = some (.ifCond .ne 5, 3, 34, 0, .null, .int) := by decide +kernel
theorem jF_93_32 : j_F 93 32 = some (.iconst (-1), 1, 0, 0, .null, .int) := by decide +kernel
theorem jF_93_33 : j_F 93 33 = some (.ireturn, 1, 0, 0, .null, .int) := by decide +kernel
theorem jF_93_34 : j_F 93 34 = some (.aload_n 0, 1, 0, 0, .null, .int) := by decide +kernel
theorem jF_93_35 : j_F 93 35 = some (.getfield 11, 3, 8, 0, .null, (.array .int)) := by decide +kernel
theorem jF_93_38 : j_F 93 38 = some (.iload_n 1, 1, 0, 0, .null, .int) := by decide +kernel
theorem jF_93_39 : j_F 93 39 = some (.iaload, 1, 0, 0, .null, .int) := by decide +kernel
theorem jF_93_40 : j_F 93 40 = some (.bipush 25, 2, 0, 0, .null, .int) := by decide +kernel
theorem jF_93_42 : j_F 93 42 = some (.iconst 5, 1, 0, 0, .null, .int) := by decide +kernel
theorem jF_93_43 : j_F 93 43 = some (.iload_n 2, 1, 0, 0, .null, .int) := by decide +kernel
theorem jF_93_44 : j_F 93 44 = some (.imul, 1, 0, 0, .null, .int) := by decide +kernel
theorem jF_93_45 : j_F 93 45 = some (.isub, 1, 0, 0, .null, .int) := by decide +kernel
theorem jF_93_46 : j_F 93 46 = some (.ishr, 1, 0, 0, .null, .int) := by decide +kernel
theorem jF_93_47 : j_F 93 47 = some (.bipush 31, 2, 0, 0, .null, .int) := by decide +kernel
theorem jF_93_49 : j_F 93 49 = some (.iand, 1, 0, 0, .null, .int) := by decide +kernel
theorem jF_93_50 : j_F 93 50 = some (.ireturn, 1, 0, 0, .null, .int) := by decide +kernel
theorem jF_96_0 : j_F 96 0 = some (.lload_n 0, 1, 0, 0, .null, .int) := by decide +kernel
theorem jF_96_1 : j_F 96 1 = some (.lload_n 0, 1, 0, 0, .null, .int) := by decide +kernel
theorem jF_96_2 : j_F 96 2 = some (.iconst 1, 1, 0, 0, .null, .int) := by decide +kernel
theorem jF_96_3 : j_F 96 3 = some (.lushr, 1, 0, 0, .null, .int) := by decide +kernel
theorem jF_96_4 : j_F 96 4 = some (.ldc2_w 314, 3, 0, 0, (.long (6148914691236517205)), .int) := by decide +kernel
theorem jF_96_7 : j_F 96 7 = some (.land, 1, 0, 0, .null, .int) := by decide +kernel
theorem jF_96_8 : j_F 96 8 = some (.lsub, 1, 0, 0, .null, .int) := by decide +kernel
theorem jF_96_9 : j_F 96 9 = some (.lstore_n 0, 1, 0, 0, .null, .int) := by decide +kernel
theorem jF_96_10 : j_F 96 10 = some (.lload_n 0, 1, 0, 0, .null, .int) := by decide +kernel
theorem jF_96_11 : j_F 96 11 = some (.ldc2_w 316, 3, 0, 0, (.long (3689348814741910323)), .int) := by decide +kernel
theorem jF_96_14 : j_F 96 14 = some (.land, 1, 0, 0, .null, .int) := by decide +kernel
theorem jF_96_15 : j_F 96 15 = some (.lload_n 0, 1, 0, 0, .null, .int) := by decide +kernel
theorem jF_96_16 : j_F 96 16 = some (.iconst 2, 1, 0, 0, .null, .int) := by decide +kernel
theorem jF_96_17 : j_F 96 17 = some (.lushr, 1, 0, 0, .null, .int) := by decide +kernel
theorem jF_96_18 : j_F 96 18 = some (.ldc2_w 316, 3, 0, 0, (.long (3689348814741910323)), .int) := by decide +kernel
theorem jF_96_21 : j_F 96 21 = some (.land, 1, 0, 0, .null, .int) := by decide +kernel
theorem jF_96_22 : j_F 96 22 = some (.ladd, 1, 0, 0, .null, .int) := by decide +kernel
theorem jF_96_23 : j_F 96 23 = some (.lstore_n 0, 1, 0, 0, .null, .int) := by decide +kernel
theorem jF_96_24 : j_F 96 24 = some (.lload_n 0, 1, 0, 0, .null, .int) := by decide +kernel
theorem jF_96_25 : j_F 96 25 = some (.lload_n 0, 1, 0, 0, .null, .int) := by decide +kernel
theorem jF_96_26 : j_F 96 26 = some (.iconst 4, 1, 0, 0, .null, .int) := by decide +kernel
theorem jF_96_27 : j_F 96 27 = some (.lushr, 1, 0, 0, .null, .int) := by decide +kernel
theorem jF_96_28 : j_F 96 28 = some (.ladd, 1, 0, 0, .null, .int) := by decide +kernel
theorem jF_96_29 : j_F 96 29 = some (.ldc2_w 318, 3, 0, 0, (.long (1085102592571150095)), .int) := by decide +kernel
theorem jF_96_32 : j_F 96 32 = some (.land, 1, 0, 0, .null, .int) := by decide +kernel
theorem jF_96_33 : j_F 96 33 = some (.lstore_n 0, 1, 0, 0, .null, .int) := by decide +kernel
theorem jF_96_34 : j_F 96 34 = some (.lload_n 0, 1, 0, 0, .null, .int) := by decide +kernel
theorem jF_96_35 : j_F 96 35 = some (.lload_n 0, 1, 0, 0, .null, .int) := by decide +kernel
theorem jF_96_36 : j_F 96 36 = some (.bipush 8, 2, 0, 0, .null, .int) := by decide +kernel
theorem jF_96_38 : j_F 96 38 = some (.lushr, 1, 0, 0, .null, .int) := by decide +kernel
theorem jF_96_39 : j_F 96 39 = some (.ladd, 1, 0, 0, .null, .int) := by decide +kernel
theorem jF_96_40 : j_F 96 40 = some (.lstore_n 0, 1, 0, 0, .null, .int) := by decide +kernel
theorem jF_96_41 : j_F 96 41 = some (.lload_n 0, 1, 0, 0, .null, .int) := by decide +kernel
theorem jF_96_42 : j_F 96 42 = some (.lload_n 0, 1, 0, 0, .null, .int) := by decide +kernel
theorem jF_96_43 : j_F 96 43 = some (.bipush 16, 2, 0, 0, .null, .int) := by decide +kernel
theorem jF_96_45 : j_F 96 45 = some (.lushr, 1, 0, 0, .null, .int) := by decide +kernel
theorem jF_96_46 : j_F 96 46 = some (.ladd, 1, 0, 0, .null, .int) := by decide +kernel
theorem jF_96_47 : j_F 96 47 = some (.lstore_n 0, 1, 0, 0, .null, .int) := by decide +kernel
theorem jF_96_48 : j_F 96 48 = some (.lload_n 0, 1, 0, 0, .null, .int) := by decide +kernel
theorem jF_96_49 : j_F 96 49 = some (.lload_n 0, 1, 0, 0, .null, .int) := by decide +kernel
theorem jF_96_50 : j_F 96 50 = some (.bipush 32, 2, 0, 0, .null, .int) := by decide +kernel
theorem jF_96_52 : j_F 96 52 = some (.lushr, 1, 0, 0, .null, .int) := by decide +kernel
theorem jF_96_53 : j_F 96 53 = some (.ladd, 1, 0, 0, .null, .int) := by decide +kernel
theorem jF_96_54 : j_F 96 54 = some (.lstore_n 0, 1, 0, 0, .null, .int) := by decide +kernel
theorem jF_96_55 : j_F 96 55 = some (.lload_n 0, 1, 0, 0, .null, .int) := by decide +kernel
theorem jF_96_56 : j_F 96 56 = some (.l2i, 1, 0, 0, .null, .int) := by decide +kernel
theorem jF_96_57 : j_F 96 57 = some (.bipush 127, 2, 0, 0, .null, .int) := by decide +kernel
theorem jF_96_59 : j_F 96 59 = some (.iand, 1, 0, 0, .null, .int) := by decide +kernel
theorem jF_96_60 : j_F 96 60 = some (.ireturn, 1, 0, 0, .null, .int) := by decide +kernel
theorem jF_100_0 : j_F 100 0 = some (.iload_n 1, 1, 0, 0, .null, .int) := by decide +kernel
theorem jF_100_1 : j_F 100 1 = some (.ifCond .lt 15, 3, 16, 0, .null, .int) := by decide +kernel
theorem jF_100_4 : j_F 100 4 = some (.iload_n 1, 1, 0, 0, .null, .int) := by decide +kernel
theorem jF_100_5 : j_F 100 5 = some (.aload_n 0, 1, 0, 0, .null, .int) := by decide +kernel
theorem jF_100_6 : j_F 100 6 = some (.getfield 68, 3, 8, 12, .null, .int) := by decide +kernel
theorem jF_100_9 : j_F 100 9 = some (.if_icmp .ge 7, 3, 16, 0, .null, .int) := by decide +kernel
theorem jF_100_12 : j_F 100 12 = some (.iconst 1, 1, 0, 0, .null, .int) := by decide +kernel
theorem jF_100_13 : j_F 100 13 = some (.goto 4, 3, 17, 0, .null, .int) := by decide +kernel
theorem jF_100_16 : j_F 100 16 = some (.iconst 0, 1, 0, 0, .null, .int) := by decide +kernel
theorem jF_100_17 : j_F 100 17 = some (.ireturn, 1, 0, 0, .null, .boolean) := by decide +kernel
theorem jF_108_0 : j_F 108 0 = some (.iload_n 1, 1, 0, 0, .null, .int) := by decide +kernel
theorem jF_108_1 : j_F 108 1 = some (.ifCond .lt 28, 3, 29, 0, .null, .int) := by decide +kernel
theorem jF_108_4 : j_F 108 4 = some (.iload_n 1, 1, 0, 0, .null, .int) := by decide +kernel
theorem jF_108_5 : j_F 108 5 = some (.bipush 23, 2, 0, 0, .null, .int) := by decide +kernel
theorem jF_108_7 : j_F 108 7 = some (.if_icmp .ge 22, 3, 29, 0, .null, .int) := by decide +kernel
theorem jF_108_10 : j_F 108 10 = some (.iload_n 1, 1, 0, 0, .null, .int) := by decide +kernel
theorem jF_108_11 : j_F 108 11 = some (.bipush 18, 2, 0, 0, .null, .int) := by decide +kernel
theorem jF_108_13 : j_F 108 13 = some (.if_icmp .ge 12, 3, 25, 0, .null, .int) := by decide +kernel
theorem jF_108_16 : j_F 108 16 = some (.aload_n 0, 1, 0, 0, .null, .int) := by decide +kernel
theorem jF_108_17 : j_F 108 17 = some (.getfield 11, 3, 8, 0, .null, (.array .int)) := by decide +kernel
theorem jF_108_20 : j_F 108 20 = some (.iload_n 1, 1, 0, 0, .null, .int) := by decide +kernel
theorem jF_108_21 : j_F 108 21 = some (.iaload, 1, 0, 0, .null, .int) := by decide +kernel
theorem jF_108_22 : j_F 108 22 = some (.ifCond .eq 7, 3, 29, 0, .null, .int) := by decide +kernel
theorem jF_108_25 : j_F 108 25 = some (.iconst 1, 1, 0, 0, .null, .int) := by decide +kernel
theorem jF_108_26 : j_F 108 26 = some (.goto 4, 3, 30, 0, .null, .int) := by decide +kernel
theorem jF_108_29 : j_F 108 29 = some (.iconst 0, 1, 0, 0, .null, .int) := by decide +kernel
theorem jF_108_30 : j_F 108 30 = some (.ireturn, 1, 0, 0, .null, .boolean) := by decide +kernel
theorem jF_155_0 : j_F 155 0 = some (.iload_n 1, 1, 0, 0, .null, .int) := by decide +kernel
theorem jF_155_1 : j_F 155 1 = some (.ifCond .lt 11, 3, 12, 0, .null, .int) := by decide +kernel
theorem jF_155_4 : j_F 155 4 = some (.iload_n 1, 1, 0, 0, .null, .int) := by decide +kernel
theorem jF_155_5 : j_F 155 5 = some (.aload_n 0, 1, 0, 0, .null, .int) := by decide +kernel
theorem jF_155_6 : j_F 155 6 = some (.getfield 65, 3, 8, 11, .null, .int) := by decide +kernel
theorem jF_155_9 : j_F 155 9 = some (.if_icmp .lt 5, 3, 14, 0, .null, .int) := by decide +kernel
theorem jF_155_12 : j_F 155 12 = some (.iconst (-1), 1, 0, 0, .null, .int) := by decide +kernel
theorem jF_155_13 : j_F 155 13 = some (.ireturn, 1, 0, 0, .null, .int) := by decide +kernel
theorem jF_155_14 : j_F 155 14 = some (.iconst 0, 1, 0, 0, .null, .int) := by decide +kernel
theorem jF_155_15 : j_F 155 15 = some (.istore 4, 2, 0, 0, .null, .int) := by decide +kernel
theorem jF_155_17 : j_F 155 17 = some (.iconst 0, 1, 0, 0, .null, .int) := by decide +kernel
theorem jF_155_18 : j_F 155 18 = some (.istore 5, 2, 0, 0, .null, .int) := by decide +kernel
theorem jF_155_20 : j_F 155 20 = some (.iload 5, 2, 0, 0, .null, .int) := by decide +kernel
theorem jF_155_22 : j_F 155 22 = some (.aload_n 0, 1, 0, 0, .null, .int) := by decide +kernel
theorem jF_155_23 : j_F 155 23 = some (.getfield 36, 3, 8, 6, .null, (.object "HundredWords$Told")) := by decide +kernel
theorem jF_155_26 : j_F 155 26 = some (.getfield 75, 3, 7, 5, .null, .int) := by decide +kernel
theorem jF_155_29 : j_F 155 29 = some (.if_icmp .ge 38, 3, 67, 0, .null, .int) := by decide +kernel
theorem jF_155_32 : j_F 155 32 = some (.aload_n 0, 1, 0, 0, .null, .int) := by decide +kernel
theorem jF_155_33 : j_F 155 33 = some (.getfield 36, 3, 8, 6, .null, (.object "HundredWords$Told")) := by decide +kernel
theorem jF_155_36 : j_F 155 36 = some (.getfield 95, 3, 7, 2, .null, (.array .int)) := by decide +kernel
theorem jF_155_39 : j_F 155 39 = some (.iload 5, 2, 0, 0, .null, .int) := by decide +kernel
theorem jF_155_41 : j_F 155 41 = some (.iaload, 1, 0, 0, .null, .int) := by decide +kernel
theorem jF_155_42 : j_F 155 42 = some (.iload_n 1, 1, 0, 0, .null, .int) := by decide +kernel
theorem jF_155_43 : j_F 155 43 = some (.if_icmp .ne 18, 3, 61, 0, .null, .int) := by decide +kernel
theorem jF_155_46 : j_F 155 46 = some (.iload 4, 2, 0, 0, .null, .int) := by decide +kernel
theorem jF_155_48 : j_F 155 48 = some (.aload_n 0, 1, 0, 0, .null, .int) := by decide +kernel
theorem jF_155_49 : j_F 155 49 = some (.getfield 36, 3, 8, 6, .null, (.object "HundredWords$Told")) := by decide +kernel
theorem jF_155_52 : j_F 155 52 = some (.iload 5, 2, 0, 0, .null, .int) := by decide +kernel
theorem jF_155_54 : j_F 155 54 = some (.lload_n 2, 1, 0, 0, .null, .int) := by decide +kernel
theorem jF_155_55 : j_F 155 55 = some (.invokevirtual 98, 3, 156, 3, .null, .int) := by decide +kernel
theorem jF_155_58 : j_F 155 58 = some (.iadd, 1, 0, 0, .null, .int) := by decide +kernel
theorem jF_155_59 : j_F 155 59 = some (.istore 4, 2, 0, 0, .null, .int) := by decide +kernel
theorem jF_155_61 : j_F 155 61 = some (.iinc 5 1, 3, 0, 0, .null, .int) := by decide +kernel
theorem jF_155_64 : j_F 155 64 = some (.goto (-44), 3, 20, 0, .null, .int) := by decide +kernel
theorem jF_155_67 : j_F 155 67 = some (.iload 4, 2, 0, 0, .null, .int) := by decide +kernel
theorem jF_155_69 : j_F 155 69 = some (.ireturn, 1, 0, 0, .null, .int) := by decide +kernel
theorem jF_156_0 : j_F 156 0 = some (.aload_n 0, 1, 0, 0, .null, .int) := by decide +kernel
theorem jF_156_1 : j_F 156 1 = some (.getfield 9, 3, 7, 0, .null, (.array .boolean)) := by decide +kernel
theorem jF_156_4 : j_F 156 4 = some (.iload_n 1, 1, 0, 0, .null, .int) := by decide +kernel
theorem jF_156_5 : j_F 156 5 = some (.baload, 1, 0, 0, .null, .int) := by decide +kernel
theorem jF_156_6 : j_F 156 6 = some (.ifCond .eq 14, 3, 20, 0, .null, .int) := by decide +kernel
theorem jF_156_9 : j_F 156 9 = some (.aload_n 0, 1, 0, 0, .null, .int) := by decide +kernel
theorem jF_156_10 : j_F 156 10 = some (.getfield 25, 3, 7, 4, .null, (.array .long)) := by decide +kernel
theorem jF_156_13 : j_F 156 13 = some (.iload_n 1, 1, 0, 0, .null, .int) := by decide +kernel
theorem jF_156_14 : j_F 156 14 = some (.laload, 1, 0, 0, .null, .int) := by decide +kernel
theorem jF_156_15 : j_F 156 15 = some (.lload_n 2, 1, 0, 0, .null, .int) := by decide +kernel
theorem jF_156_16 : j_F 156 16 = some (.land, 1, 0, 0, .null, .int) := by decide +kernel
theorem jF_156_17 : j_F 156 17 = some (.goto 15, 3, 32, 0, .null, .int) := by decide +kernel
theorem jF_156_20 : j_F 156 20 = some (.aload_n 0, 1, 0, 0, .null, .int) := by decide +kernel
theorem jF_156_21 : j_F 156 21 = some (.getfield 25, 3, 7, 4, .null, (.array .long)) := by decide +kernel
theorem jF_156_24 : j_F 156 24 = some (.iload_n 1, 1, 0, 0, .null, .int) := by decide +kernel
theorem jF_156_25 : j_F 156 25 = some (.laload, 1, 0, 0, .null, .int) := by decide +kernel
theorem jF_156_26 : j_F 156 26 = some (.lload_n 2, 1, 0, 0, .null, .int) := by decide +kernel
theorem jF_156_27 : j_F 156 27 = some (.ldc2_w 44, 3, 0, 0, (.long (-1)), .int) := by decide +kernel
theorem jF_156_30 : j_F 156 30 = some (.lxor, 1, 0, 0, .null, .int) := by decide +kernel
theorem jF_156_31 : j_F 156 31 = some (.land, 1, 0, 0, .null, .int) := by decide +kernel
theorem jF_156_32 : j_F 156 32 = some (.lstore 4, 2, 0, 0, .null, .int) := by decide +kernel
theorem jF_156_34 : j_F 156 34 = some (.aload_n 0, 1, 0, 0, .null, .int) := by decide +kernel
theorem jF_156_35 : j_F 156 35 = some (.getfield 22, 3, 7, 3, .null, (.array .int)) := by decide +kernel
theorem jF_156_38 : j_F 156 38 = some (.iload_n 1, 1, 0, 0, .null, .int) := by decide +kernel
theorem jF_156_39 : j_F 156 39 = some (.iaload, 1, 0, 0, .null, .int) := by decide +kernel
theorem jF_156_40 : j_F 156 40 = some (.lload 4, 2, 0, 0, .null, .int) := by decide +kernel
theorem jF_156_42 : j_F 156 42 = some (.invokestatic 46, 3, 96, 1, .null, .int) := by decide +kernel
theorem jF_156_45 : j_F 156 45 = some (.imul, 1, 0, 0, .null, .int) := by decide +kernel
theorem jF_156_46 : j_F 156 46 = some (.ireturn, 1, 0, 0, .null, .int) := by decide +kernel
theorem jF_158_0 : j_F 158 0 = some (.aload_n 0, 1, 0, 0, .null, .int) := by decide +kernel
theorem jF_158_1 : j_F 158 1 = some (.lload_n 1, 1, 0, 0, .null, .int) := by decide +kernel
theorem jF_158_2 : j_F 158 2 = some (.lload_n 3, 1, 0, 0, .null, .int) := by decide +kernel
theorem jF_158_3 : j_F 158 3 = some (.invokevirtual 102, 3, 159, 3, .null, .int) := by decide +kernel
theorem jF_158_6 : j_F 158 6 = some (.iconst 0, 1, 0, 0, .null, .int) := by decide +kernel
theorem jF_158_7 : j_F 158 7 = some (.istore 6, 2, 0, 0, .null, .int) := by decide +kernel
theorem jF_158_9 : j_F 158 9 = some (.iconst 0, 1, 0, 0, .null, .int) := by decide +kernel
theorem jF_158_10 : j_F 158 10 = some (.istore 7, 2, 0, 0, .null, .int) := by decide +kernel
theorem jF_158_12 : j_F 158 12 = some (.iload 7, 2, 0, 0, .null, .int) := by decide +kernel
theorem jF_158_14 : j_F 158 14 = some (.aload_n 0, 1, 0, 0, .null, .int) := by decide +kernel
theorem jF_158_15 : j_F 158 15 = some (.getfield 65, 3, 8, 11, .null, .int) := by decide +kernel
theorem jF_158_18 : j_F 158 18 = some (.if_icmp .ge 49, 3, 67, 0, .null, .int) := by decide +kernel
theorem jF_158_21 : j_F 158 21 = some (.iload 5, 2, 0, 0, .null, .int) := by decide +kernel
theorem jF_158_23 : j_F 158 23 = some (.ifCond .eq 16, 3, 39, 0, .null, .int) := by decide +kernel
theorem jF_158_26 : j_F 158 26 = some (.aload_n 0, 1, 0, 0, .null, .int) := by decide +kernel
theorem jF_158_27 : j_F 158 27 = some (.getfield 24, 3, 8, 4, .null, (.array .int)) := by decide +kernel
theorem jF_158_30 : j_F 158 30 = some (.iload 7, 2, 0, 0, .null, .int) := by decide +kernel
theorem jF_158_32 : j_F 158 32 = some (.iaload, 1, 0, 0, .null, .int) := by decide +kernel
theorem jF_158_33 : j_F 158 33 = some (.ifCond .le 28, 3, 61, 0, .null, .int) := by decide +kernel
theorem jF_158_36 : j_F 158 36 = some (.goto 13, 3, 49, 0, .null, .int) := by decide +kernel
theorem jF_158_39 : j_F 158 39 = some (.aload_n 0, 1, 0, 0, .null, .int) := by decide +kernel
theorem jF_158_40 : j_F 158 40 = some (.getfield 24, 3, 8, 4, .null, (.array .int)) := by decide +kernel
theorem jF_158_43 : j_F 158 43 = some (.iload 7, 2, 0, 0, .null, .int) := by decide +kernel
theorem jF_158_45 : j_F 158 45 = some (.iaload, 1, 0, 0, .null, .int) := by decide +kernel
theorem jF_158_46 : j_F 158 46 = some (.ifCond .ge 15, 3, 61, 0, .null, .int) := by decide +kernel
theorem jF_158_49 : j_F 158 49 = some (.iload 6, 2, 0, 0, .null, .int) := by decide +kernel
theorem jF_158_51 : j_F 158 51 = some (.aload_n 0, 1, 0, 0, .null, .int) := by decide +kernel
theorem jF_158_52 : j_F 158 52 = some (.getfield 21, 3, 8, 3, .null, (.array .int)) := by decide +kernel
theorem jF_158_55 : j_F 158 55 = some (.iload 7, 2, 0, 0, .null, .int) := by decide +kernel
theorem jF_158_57 : j_F 158 57 = some (.iaload, 1, 0, 0, .null, .int) := by decide +kernel
theorem jF_158_58 : j_F 158 58 = some (.iadd, 1, 0, 0, .null, .int) := by decide +kernel
theorem jF_158_59 : j_F 158 59 = some (.istore 6, 2, 0, 0, .null, .int) := by decide +kernel
theorem jF_158_61 : j_F 158 61 = some (.iinc 7 1, 3, 0, 0, .null, .int) := by decide +kernel
theorem jF_158_64 : j_F 158 64 = some (.goto (-52), 3, 12, 0, .null, .int) := by decide +kernel
theorem jF_158_67 : j_F 158 67 = some (.iload 6, 2, 0, 0, .null, .int) := by decide +kernel
theorem jF_158_69 : j_F 158 69 = some (.ireturn, 1, 0, 0, .null, .int) := by decide +kernel
theorem jF_159_0 : j_F 159 0 = some (.aload_n 0, 1, 0, 0, .null, .int) := by decide +kernel
theorem jF_159_1 : j_F 159 1 = some (.getfield 24, 3, 8, 4, .null, (.array .int)) := by decide +kernel
theorem jF_159_4 : j_F 159 4 = some (.iconst 0, 1, 0, 0, .null, .int) := by decide +kernel
theorem jF_159_5 : j_F 159 5 = some (.invokestatic 50, 3, 31, 2, .null, .int) := by decide +kernel
theorem jF_159_8 : j_F 159 8 = some (.iconst 0, 1, 0, 0, .null, .int) := by decide +kernel
theorem jF_159_9 : j_F 159 9 = some (.istore 5, 2, 0, 0, .null, .int) := by decide +kernel
theorem jF_159_11 : j_F 159 11 = some (.iload 5, 2, 0, 0, .null, .int) := by decide +kernel
theorem jF_159_13 : j_F 159 13 = some (.aload_n 0, 1, 0, 0, .null, .int) := by decide +kernel
theorem jF_159_14 : j_F 159 14 = some (.getfield 36, 3, 8, 6, .null, (.object "HundredWords$Told")) := by decide +kernel
theorem jF_159_17 : j_F 159 17 = some (.getfield 75, 3, 7, 5, .null, .int) := by decide +kernel
theorem jF_159_20 : j_F 159 20 = some (.if_icmp .ge 67, 3, 87, 0, .null, .int) := by decide +kernel
theorem jF_159_23 : j_F 159 23 = some (.aload_n 0, 1, 0, 0, .null, .int) := by decide +kernel
theorem jF_159_24 : j_F 159 24 = some (.getfield 36, 3, 8, 6, .null, (.object "HundredWords$Told")) := by decide +kernel
theorem jF_159_27 : j_F 159 27 = some (.getfield 95, 3, 7, 2, .null, (.array .int)) := by decide +kernel
theorem jF_159_30 : j_F 159 30 = some (.iload 5, 2, 0, 0, .null, .int) := by decide +kernel
theorem jF_159_32 : j_F 159 32 = some (.iaload, 1, 0, 0, .null, .int) := by decide +kernel
theorem jF_159_33 : j_F 159 33 = some (.istore 6, 2, 0, 0, .null, .int) := by decide +kernel
theorem jF_159_35 : j_F 159 35 = some (.iload 6, 2, 0, 0, .null, .int) := by decide +kernel
theorem jF_159_37 : j_F 159 37 = some (.ifCond .lt 44, 3, 81, 0, .null, .int) := by decide +kernel
theorem jF_159_40 : j_F 159 40 = some (.iload 6, 2, 0, 0, .null, .int) := by decide +kernel
theorem jF_159_42 : j_F 159 42 = some (.aload_n 0, 1, 0, 0, .null, .int) := by decide +kernel
theorem jF_159_43 : j_F 159 43 = some (.getfield 24, 3, 8, 4, .null, (.array .int)) := by decide +kernel
theorem jF_159_46 : j_F 159 46 = some (.arraylength, 1, 0, 0, .null, .int) := by decide +kernel
theorem jF_159_47 : j_F 159 47 = some (.if_icmp .ge 34, 3, 81, 0, .null, .int) := by decide +kernel
theorem jF_159_50 : j_F 159 50 = some (.aload_n 0, 1, 0, 0, .null, .int) := by decide +kernel
theorem jF_159_51 : j_F 159 51 = some (.getfield 24, 3, 8, 4, .null, (.array .int)) := by decide +kernel
theorem jF_159_54 : j_F 159 54 = some (.iload 6, 2, 0, 0, .null, .int) := by decide +kernel
theorem jF_159_56 : j_F 159 56 = some (.dup2, 1, 0, 0, .null, .int) := by decide +kernel
theorem jF_159_57 : j_F 159 57 = some (.iaload, 1, 0, 0, .null, .int) := by decide +kernel
theorem jF_159_58 : j_F 159 58 = some (.aload_n 0, 1, 0, 0, .null, .int) := by decide +kernel
theorem jF_159_59 : j_F 159 59 = some (.getfield 36, 3, 8, 6, .null, (.object "HundredWords$Told")) := by decide +kernel
theorem jF_159_62 : j_F 159 62 = some (.iload 5, 2, 0, 0, .null, .int) := by decide +kernel
theorem jF_159_64 : j_F 159 64 = some (.lload_n 3, 1, 0, 0, .null, .int) := by decide +kernel
theorem jF_159_65 : j_F 159 65 = some (.invokevirtual 98, 3, 156, 3, .null, .int) := by decide +kernel
theorem jF_159_68 : j_F 159 68 = some (.aload_n 0, 1, 0, 0, .null, .int) := by decide +kernel
theorem jF_159_69 : j_F 159 69 = some (.getfield 36, 3, 8, 6, .null, (.object "HundredWords$Told")) := by decide +kernel
theorem jF_159_72 : j_F 159 72 = some (.iload 5, 2, 0, 0, .null, .int) := by decide +kernel
theorem jF_159_74 : j_F 159 74 = some (.lload_n 1, 1, 0, 0, .null, .int) := by decide +kernel
theorem jF_159_75 : j_F 159 75 = some (.invokevirtual 98, 3, 156, 3, .null, .int) := by decide +kernel
theorem jF_159_78 : j_F 159 78 = some (.isub, 1, 0, 0, .null, .int) := by decide +kernel
theorem jF_159_79 : j_F 159 79 = some (.iadd, 1, 0, 0, .null, .int) := by decide +kernel
theorem jF_159_80 : j_F 159 80 = some (.iastore, 1, 0, 0, .null, .int) := by decide +kernel
theorem jF_159_81 : j_F 159 81 = some (.iinc 5 1, 3, 0, 0, .null, .int) := by decide +kernel
theorem jF_159_84 : j_F 159 84 = some (.goto (-73), 3, 11, 0, .null, .int) := by decide +kernel
theorem jF_159_87 : j_F 159 87 = some (.return_, 1, 0, 0, .null, .int) := by decide +kernel
theorem jF_162_0 : j_F 162 0 = some (.lload_n 1, 1, 0, 0, .null, .int) := by decide +kernel
theorem jF_162_1 : j_F 162 1 = some (.lload_n 3, 1, 0, 0, .null, .int) := by decide +kernel
theorem jF_162_2 : j_F 162 2 = some (.lcmp, 1, 0, 0, .null, .int) := by decide +kernel
theorem jF_162_3 : j_F 162 3 = some (.ifCond .ne 5, 3, 8, 0, .null, .int) := by decide +kernel
theorem jF_162_6 : j_F 162 6 = some (.iconst 0, 1, 0, 0, .null, .int) := by decide +kernel
theorem jF_162_7 : j_F 162 7 = some (.ireturn, 1, 0, 0, .null, .boolean) := by decide +kernel
theorem jF_162_8 : j_F 162 8 = some (.aload_n 0, 1, 0, 0, .null, .int) := by decide +kernel
theorem jF_162_9 : j_F 162 9 = some (.lload_n 1, 1, 0, 0, .null, .int) := by decide +kernel
theorem jF_162_10 : j_F 162 10 = some (.lload_n 3, 1, 0, 0, .null, .int) := by decide +kernel
theorem jF_162_11 : j_F 162 11 = some (.invokevirtual 102, 3, 159, 3, .null, .int) := by decide +kernel
theorem jF_162_14 : j_F 162 14 = some (.iconst 0, 1, 0, 0, .null, .int) := by decide +kernel
theorem jF_162_15 : j_F 162 15 = some (.istore 5, 2, 0, 0, .null, .int) := by decide +kernel
theorem jF_162_17 : j_F 162 17 = some (.iconst 0, 1, 0, 0, .null, .int) := by decide +kernel
theorem jF_162_18 : j_F 162 18 = some (.istore 6, 2, 0, 0, .null, .int) := by decide +kernel
theorem jF_162_20 : j_F 162 20 = some (.iload 6, 2, 0, 0, .null, .int) := by decide +kernel
theorem jF_162_22 : j_F 162 22 = some (.aload_n 0, 1, 0, 0, .null, .int) := by decide +kernel
theorem jF_162_23 : j_F 162 23 = some (.getfield 65, 3, 8, 11, .null, .int) := by decide +kernel
theorem jF_162_26 : j_F 162 26 = some (.if_icmp .ge 52, 3, 78, 0, .null, .int) := by decide +kernel
theorem jF_162_29 : j_F 162 29 = some (.aload_n 0, 1, 0, 0, .null, .int) := by decide +kernel
theorem jF_162_30 : j_F 162 30 = some (.getfield 24, 3, 8, 4, .null, (.array .int)) := by decide +kernel
theorem jF_162_33 : j_F 162 33 = some (.iload 6, 2, 0, 0, .null, .int) := by decide +kernel
theorem jF_162_35 : j_F 162 35 = some (.iaload, 1, 0, 0, .null, .int) := by decide +kernel
theorem jF_162_36 : j_F 162 36 = some (.ifCond .eq 36, 3, 72, 0, .null, .int) := by decide +kernel
theorem jF_162_39 : j_F 162 39 = some (.iload 5, 2, 0, 0, .null, .int) := by decide +kernel
theorem jF_162_41 : j_F 162 41 = some (.aload_n 0, 1, 0, 0, .null, .int) := by decide +kernel
theorem jF_162_42 : j_F 162 42 = some (.getfield 24, 3, 8, 4, .null, (.array .int)) := by decide +kernel
theorem jF_162_45 : j_F 162 45 = some (.iload 6, 2, 0, 0, .null, .int) := by decide +kernel
theorem jF_162_47 : j_F 162 47 = some (.iaload, 1, 0, 0, .null, .int) := by decide +kernel
theorem jF_162_48 : j_F 162 48 = some (.ifCond .le 13, 3, 61, 0, .null, .int) := by decide +kernel
theorem jF_162_51 : j_F 162 51 = some (.aload_n 0, 1, 0, 0, .null, .int) := by decide +kernel
theorem jF_162_52 : j_F 162 52 = some (.getfield 21, 3, 8, 3, .null, (.array .int)) := by decide +kernel
theorem jF_162_55 : j_F 162 55 = some (.iload 6, 2, 0, 0, .null, .int) := by decide +kernel
theorem jF_162_57 : j_F 162 57 = some (.iaload, 1, 0, 0, .null, .int) := by decide +kernel
theorem jF_162_58 : j_F 162 58 = some (.goto 11, 3, 69, 0, .null, .int) := by decide +kernel
theorem jF_162_61 : j_F 162 61 = some (.aload_n 0, 1, 0, 0, .null, .int) := by decide +kernel
theorem jF_162_62 : j_F 162 62 = some (.getfield 21, 3, 8, 3, .null, (.array .int)) := by decide +kernel
theorem jF_162_65 : j_F 162 65 = some (.iload 6, 2, 0, 0, .null, .int) := by decide +kernel
theorem jF_162_67 : j_F 162 67 = some (.iaload, 1, 0, 0, .null, .int) := by decide +kernel
theorem jF_162_68 : j_F 162 68 = some (.ineg, 1, 0, 0, .null, .int) := by decide +kernel
theorem jF_162_69 : j_F 162 69 = some (.iadd, 1, 0, 0, .null, .int) := by decide +kernel
theorem jF_162_70 : j_F 162 70 = some (.istore 5, 2, 0, 0, .null, .int) := by decide +kernel
theorem jF_162_72 : j_F 162 72 = some (.iinc 6 1, 3, 0, 0, .null, .int) := by decide +kernel
theorem jF_162_75 : j_F 162 75 = some (.goto (-55), 3, 20, 0, .null, .int) := by decide +kernel
theorem jF_162_78 : j_F 162 78 = some (.iload 5, 2, 0, 0, .null, .int) := by decide +kernel
theorem jF_162_80 : j_F 162 80 = some (.ifCond .le 7, 3, 87, 0, .null, .int) := by decide +kernel
theorem jF_162_83 : j_F 162 83 = some (.iconst 1, 1, 0, 0, .null, .int) := by decide +kernel
theorem jF_162_84 : j_F 162 84 = some (.goto 4, 3, 88, 0, .null, .int) := by decide +kernel
theorem jF_162_87 : j_F 162 87 = some (.iconst 0, 1, 0, 0, .null, .int) := by decide +kernel
theorem jF_162_88 : j_F 162 88 = some (.ireturn, 1, 0, 0, .null, .boolean) := by decide +kernel
theorem jF_167_0 : j_F 167 0 = some (.iconst 0, 1, 0, 0, .null, .int) := by decide +kernel
theorem jF_167_1 : j_F 167 1 = some (.istore_n 3, 1, 0, 0, .null, .int) := by decide +kernel
theorem jF_167_2 : j_F 167 2 = some (.iload_n 3, 1, 0, 0, .null, .int) := by decide +kernel
theorem jF_167_3 : j_F 167 3 = some (.aload_n 0, 1, 0, 0, .null, .int) := by decide +kernel
theorem jF_167_4 : j_F 167 4 = some (.getfield 29, 3, 7, 5, .null, .int) := by decide +kernel
theorem jF_167_7 : j_F 167 7 = some (.if_icmp .ge 52, 3, 59, 0, .null, .int) := by decide +kernel
theorem jF_167_10 : j_F 167 10 = some (.aload_n 0, 1, 0, 0, .null, .int) := by decide +kernel
theorem jF_167_11 : j_F 167 11 = some (.getfield 9, 3, 7, 0, .null, (.array .boolean)) := by decide +kernel
theorem jF_167_14 : j_F 167 14 = some (.iload_n 3, 1, 0, 0, .null, .int) := by decide +kernel
theorem jF_167_15 : j_F 167 15 = some (.baload, 1, 0, 0, .null, .int) := by decide +kernel
theorem jF_167_16 : j_F 167 16 = some (.ifCond .eq 18, 3, 34, 0, .null, .int) := by decide +kernel
theorem jF_167_19 : j_F 167 19 = some (.aload_n 0, 1, 0, 0, .null, .int) := by decide +kernel
theorem jF_167_20 : j_F 167 20 = some (.getfield 25, 3, 7, 4, .null, (.array .long)) := by decide +kernel
theorem jF_167_23 : j_F 167 23 = some (.iload_n 3, 1, 0, 0, .null, .int) := by decide +kernel
theorem jF_167_24 : j_F 167 24 = some (.laload, 1, 0, 0, .null, .int) := by decide +kernel
theorem jF_167_25 : j_F 167 25 = some (.lload_n 1, 1, 0, 0, .null, .int) := by decide +kernel
theorem jF_167_26 : j_F 167 26 = some (.ldc2_w 44, 3, 0, 0, (.long (-1)), .int) := by decide +kernel
theorem jF_167_29 : j_F 167 29 = some (.lxor, 1, 0, 0, .null, .int) := by decide +kernel
theorem jF_167_30 : j_F 167 30 = some (.land, 1, 0, 0, .null, .int) := by decide +kernel
theorem jF_167_31 : j_F 167 31 = some (.goto 11, 3, 42, 0, .null, .int) := by decide +kernel
theorem jF_167_34 : j_F 167 34 = some (.aload_n 0, 1, 0, 0, .null, .int) := by decide +kernel
theorem jF_167_35 : j_F 167 35 = some (.getfield 25, 3, 7, 4, .null, (.array .long)) := by decide +kernel
theorem jF_167_38 : j_F 167 38 = some (.iload_n 3, 1, 0, 0, .null, .int) := by decide +kernel
theorem jF_167_39 : j_F 167 39 = some (.laload, 1, 0, 0, .null, .int) := by decide +kernel
theorem jF_167_40 : j_F 167 40 = some (.lload_n 1, 1, 0, 0, .null, .int) := by decide +kernel
theorem jF_167_41 : j_F 167 41 = some (.land, 1, 0, 0, .null, .int) := by decide +kernel
theorem jF_167_42 : j_F 167 42 = some (.lstore 4, 2, 0, 0, .null, .int) := by decide +kernel
theorem jF_167_44 : j_F 167 44 = some (.lload 4, 2, 0, 0, .null, .int) := by decide +kernel
theorem jF_167_46 : j_F 167 46 = some (.lconst 0, 1, 0, 0, .null, .int) := by decide +kernel
theorem jF_167_47 : j_F 167 47 = some (.lcmp, 1, 0, 0, .null, .int) := by decide +kernel
theorem jF_167_48 : j_F 167 48 = some (.ifCond .eq 5, 3, 53, 0, .null, .int) := by decide +kernel
theorem jF_167_51 : j_F 167 51 = some (.iload_n 3, 1, 0, 0, .null, .int) := by decide +kernel
theorem jF_167_52 : j_F 167 52 = some (.ireturn, 1, 0, 0, .null, .int) := by decide +kernel
theorem jF_167_53 : j_F 167 53 = some (.iinc 3 1, 3, 0, 0, .null, .int) := by decide +kernel
theorem jF_167_56 : j_F 167 56 = some (.goto (-54), 3, 2, 0, .null, .int) := by decide +kernel
theorem jF_167_59 : j_F 167 59 = some (.iconst (-1), 1, 0, 0, .null, .int) := by decide +kernel
theorem jF_167_60 : j_F 167 60 = some (.ireturn, 1, 0, 0, .null, .int) := by decide +kernel
