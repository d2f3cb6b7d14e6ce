/-! CODE. -/
theorem jF_24_0 : j_F 24 0 = some (.aload_n 0, 1, 0, 0, .null, .int) := by decide +kernel
theorem jF_24_1 : j_F 24 1 = some (.getfield 10, 3, 11, 0, .null, (.object "HundredWords$Tape")) := by decide +kernel
theorem jF_24_4 : j_F 24 4 = some (.getfield 101, 3, 6, 1, .null, .int) := by decide +kernel
theorem jF_24_7 : j_F 24 7 = some (.bipush 20, 2, 0, 0, .null, .int) := by decide +kernel
theorem jF_24_9 : j_F 24 9 = some (.iadd, 1, 0, 0, .null, .int) := by decide +kernel
theorem jF_24_10 : j_F 24 10 = some (.sipush 1600, 3, 0, 0, .null, .int) := by decide +kernel
theorem jF_24_13 : j_F 24 13 = some (.if_icmp .le 9, 3, 22, 0, .null, .int) := by decide +kernel
theorem jF_24_16 : j_F 24 16 = some (.aload_n 0, 1, 0, 0, .null, .int) := by decide +kernel
theorem jF_24_17 : j_F 24 17 = some (.iconst 0, 1, 0, 0, .null, .int) := by decide +kernel
theorem jF_24_18 : j_F 24 18 = some (.invokevirtual 105, 3, 25, 2, .null, .int) := by decide +kernel
theorem jF_24_21 : j_F 24 21 = some (.ireturn, 1, 0, 0, .null, .int) := by decide +kernel
theorem jF_24_22 : j_F 24 22 = some (.aload_n 0, 1, 0, 0, .null, .int) := by decide +kernel
theorem jF_24_23 : j_F 24 23 = some (.getfield 10, 3, 11, 0, .null, (.object "HundredWords$Tape")) := by decide +kernel
theorem jF_24_26 : j_F 24 26 = some (.iload_n 1, 1, 0, 0, .null, .int) := by decide +kernel
theorem jF_24_27 : j_F 24 27 = some (.invokevirtual 109, 3, 26, 2, .null, .int) := by decide +kernel
theorem jF_24_30 : j_F 24 30 = some (.aload_n 0, 1, 0, 0, .null, .int) := by decide +kernel
theorem jF_24_31 : j_F 24 31 = some (.getfield 10, 3, 11, 0, .null, (.object "HundredWords$Tape")) := by decide +kernel
theorem jF_24_34 : j_F 24 34 = some (.iload_n 2, 1, 0, 0, .null, .int) := by decide +kernel
theorem jF_24_35 : j_F 24 35 = some (.invokevirtual 109, 3, 26, 2, .null, .int) := by decide +kernel
theorem jF_24_38 : j_F 24 38 = some (.aload_n 0, 1, 0, 0, .null, .int) := by decide +kernel
theorem jF_24_39 : j_F 24 39 = some (.getfield 10, 3, 11, 0, .null, (.object "HundredWords$Tape")) := by decide +kernel
theorem jF_24_42 : j_F 24 42 = some (.iload_n 3, 1, 0, 0, .null, .int) := by decide +kernel
theorem jF_24_43 : j_F 24 43 = some (.invokevirtual 109, 3, 26, 2, .null, .int) := by decide +kernel
theorem jF_24_46 : j_F 24 46 = some (.aload_n 0, 1, 0, 0, .null, .int) := by decide +kernel
theorem jF_24_47 : j_F 24 47 = some (.getfield 10, 3, 11, 0, .null, (.object "HundredWords$Tape")) := by decide +kernel
theorem jF_24_50 : j_F 24 50 = some (.iload 4, 2, 0, 0, .null, .int) := by decide +kernel
theorem jF_24_52 : j_F 24 52 = some (.invokevirtual 109, 3, 26, 2, .null, .int) := by decide +kernel
theorem jF_24_55 : j_F 24 55 = some (.aload_n 0, 1, 0, 0, .null, .int) := by decide +kernel
theorem jF_24_56 : j_F 24 56 = some (.getfield 10, 3, 11, 0, .null, (.object "HundredWords$Tape")) := by decide +kernel
theorem jF_24_59 : j_F 24 59 = some (.iload 5, 2, 0, 0, .null, .int) := by decide +kernel
theorem jF_24_61 : j_F 24 61 = some (.invokevirtual 109, 3, 26, 2, .null, .int) := by decide +kernel
theorem jF_24_64 : j_F 24 64 = some (.aload_n 0, 1, 0, 0, .null, .int) := by decide +kernel
theorem jF_24_65 : j_F 24 65 = some (.getfield 10, 3, 11, 0, .null, (.object "HundredWords$Tape")) := by decide +kernel
theorem jF_24_68 : j_F 24 68 = some (.getfield 101, 3, 6, 1, .null, .int) := by decide +kernel
theorem jF_24_71 : j_F 24 71 = some (.ireturn, 1, 0, 0, .null, .int) := by decide +kernel
theorem jF_25_0 : j_F 25 0 = some (.iload_n 1, 1, 0, 0, .null, .int) := by decide +kernel
theorem jF_25_1 : j_F 25 1 = some (.ifCond .lt 22, 3, 23, 0, .null, .int) := by decide +kernel
theorem jF_25_4 : j_F 25 4 = some (.iload_n 1, 1, 0, 0, .null, .int) := by decide +kernel
theorem jF_25_5 : j_F 25 5 = some (.aload_n 0, 1, 0, 0, .null, .int) := by decide +kernel
theorem jF_25_6 : j_F 25 6 = some (.getfield 93, 3, 11, 14, .null, (.array .int)) := by decide +kernel
theorem jF_25_9 : j_F 25 9 = some (.arraylength, 1, 0, 0, .null, .int) := by decide +kernel
theorem jF_25_10 : j_F 25 10 = some (.if_icmp .ge 13, 3, 23, 0, .null, .int) := by decide +kernel
theorem jF_25_13 : j_F 25 13 = some (.aload_n 0, 1, 0, 0, .null, .int) := by decide +kernel
theorem jF_25_14 : j_F 25 14 = some (.getfield 93, 3, 11, 14, .null, (.array .int)) := by decide +kernel
theorem jF_25_17 : j_F 25 17 = some (.iload_n 1, 1, 0, 0, .null, .int) := by decide +kernel
theorem jF_25_18 : j_F 25 18 = some (.dup2, 1, 0, 0, .null, .int) := by decide +kernel
theorem jF_25_19 : j_F 25 19 = some (.iaload, 1, 0, 0, .null, .int) := by decide +kernel
theorem jF_25_20 : j_F 25 20 = some (.iconst 1, 1, 0, 0, .null, .int) := by decide +kernel
theorem jF_25_21 : j_F 25 21 = some (.iadd, 1, 0, 0, .null, .int) := by decide +kernel
theorem jF_25_22 : j_F 25 22 = some (.iastore, 1, 0, 0, .null, .int) := by decide +kernel
theorem jF_25_23 : j_F 25 23 = some (.iconst (-1), 1, 0, 0, .null, .int) := by decide +kernel
theorem jF_25_24 : j_F 25 24 = some (.ireturn, 1, 0, 0, .null, .int) := by decide +kernel
theorem jF_27_0 : j_F 27 0 = some (.iload_n 1, 1, 0, 0, .null, .int) := by decide +kernel
theorem jF_27_1 : j_F 27 1 = some (.ifCond .lt 14, 3, 15, 0, .null, .int) := by decide +kernel
theorem jF_27_4 : j_F 27 4 = some (.iload_n 1, 1, 0, 0, .null, .int) := by decide +kernel
theorem jF_27_5 : j_F 27 5 = some (.aload_n 0, 1, 0, 0, .null, .int) := by decide +kernel
theorem jF_27_6 : j_F 27 6 = some (.getfield 10, 3, 11, 0, .null, (.object "HundredWords$Tape")) := by decide +kernel
theorem jF_27_9 : j_F 27 9 = some (.getfield 101, 3, 6, 1, .null, .int) := by decide +kernel
theorem jF_27_12 : j_F 27 12 = some (.if_icmp .le 11, 3, 23, 0, .null, .int) := by decide +kernel
theorem jF_27_15 : j_F 27 15 = some (.aload_n 0, 1, 0, 0, .null, .int) := by decide +kernel
theorem jF_27_16 : j_F 27 16 = some (.iconst 0, 1, 0, 0, .null, .int) := by decide +kernel
theorem jF_27_17 : j_F 27 17 = some (.invokevirtual 105, 3, 25, 2, .null, .int) := by decide +kernel
theorem jF_27_20 : j_F 27 20 = some (.pop, 1, 0, 0, .null, .int) := by decide +kernel
theorem jF_27_21 : j_F 27 21 = some (.iconst 0, 1, 0, 0, .null, .int) := by decide +kernel
theorem jF_27_22 : j_F 27 22 = some (.ireturn, 1, 0, 0, .null, .boolean) := by decide +kernel
theorem jF_27_23 : j_F 27 23 = some (.aload_n 0, 1, 0, 0, .null, .int) := by decide +kernel
theorem jF_27_24 : j_F 27 24 = some (.getfield 10, 3, 11, 0, .null, (.object "HundredWords$Tape")) := by decide +kernel
theorem jF_27_27 : j_F 27 27 = some (.iload_n 1, 1, 0, 0, .null, .int) := by decide +kernel
theorem jF_27_28 : j_F 27 28 = some (.putfield 101, 3, 6, 1, .null, .int) := by decide +kernel
theorem jF_27_31 : j_F 27 31 = some (.iconst 1, 1, 0, 0, .null, .int) := by decide +kernel
theorem jF_27_32 : j_F 27 32 = some (.ireturn, 1, 0, 0, .null, .boolean) := by decide +kernel
theorem jF_28_0 : j_F 28 0 = some (.aload_n 0, 1, 0, 0, .null, .int) := by decide +kernel
theorem jF_28_1 : j_F 28 1 = some (.getfield 21, 3, 11, 1, .null, (.object "HundredWords$TongueReader")) := by decide +kernel
theorem jF_28_4 : j_F 28 4 = some (.aload_n 0, 1, 0, 0, .null, .int) := by decide +kernel
theorem jF_28_5 : j_F 28 5 = some (.getfield 46, 3, 11, 5, .null, (.object "HundredWords$Tongue")) := by decide +kernel
theorem jF_28_8 : j_F 28 8 = some (.invokevirtual 113, 3, 29, 2, .null, .int) := by decide +kernel
theorem jF_28_11 : j_F 28 11 = some (.istore_n 1, 1, 0, 0, .null, .int) := by decide +kernel
theorem jF_28_12 : j_F 28 12 = some (.aload_n 0, 1, 0, 0, .null, .int) := by decide +kernel
theorem jF_28_13 : j_F 28 13 = some (.getfield 10, 3, 11, 0, .null, (.object "HundredWords$Tape")) := by decide +kernel
theorem jF_28_16 : j_F 28 16 = some (.iconst 0, 1, 0, 0, .null, .int) := by decide +kernel
theorem jF_28_17 : j_F 28 17 = some (.putfield 101, 3, 6, 1, .null, .int) := by decide +kernel
theorem jF_28_20 : j_F 28 20 = some (.iload_n 1, 1, 0, 0, .null, .int) := by decide +kernel
theorem jF_28_21 : j_F 28 21 = some (.iconst (-1), 1, 0, 0, .null, .int) := by decide +kernel
theorem jF_28_22 : j_F 28 22 = some (.if_icmp .ne 9, 3, 31, 0, .null, .int) := by decide +kernel
theorem jF_28_25 : j_F 28 25 = some (.aload_n 0, 1, 0, 0, .null, .int) := by decide +kernel
theorem jF_28_26 : j_F 28 26 = some (.iconst 1, 1, 0, 0, .null, .int) := by decide +kernel
theorem jF_28_27 : j_F 28 27 = some (.invokevirtual 105, 3, 25, 2, .null, .int) := by decide +kernel
theorem jF_28_30 : j_F 28 30 = some (.ireturn, 1, 0, 0, .null, .int) := by decide +kernel
theorem jF_28_31 : j_F 28 31 = some (.aload_n 0, 1, 0, 0, .null, .int) := by decide +kernel
theorem jF_28_32 : j_F 28 32 = some (.getfield 42, 3, 11, 4, .null, (.object "HundredWords$Tongue")) := by decide +kernel
theorem jF_28_35 : j_F 28 35 = some (.astore_n 2, 1, 0, 0, .null, .int) := by decide +kernel
theorem jF_28_36 : j_F 28 36 = some (.aload_n 0, 1, 0, 0, .null, .int) := by decide +kernel
theorem jF_28_37 : j_F 28 37 = some (.aload_n 0, 1, 0, 0, .null, .int) := by decide +kernel
theorem jF_28_38 : j_F 28 38 = some (.getfield 46, 3, 11, 5, .null, (.object "HundredWords$Tongue")) := by decide +kernel
theorem jF_28_41 : j_F 28 41 = some (.putfield 42, 3, 11, 4, .null, (.object "HundredWords$Tongue")) := by decide +kernel
theorem jF_28_44 : j_F 28 44 = some (.aload_n 0, 1, 0, 0, .null, .int) := by decide +kernel
theorem jF_28_45 : j_F 28 45 = some (.aload_n 2, 1, 0, 0, .null, .int) := by decide +kernel
theorem jF_28_46 : j_F 28 46 = some (.putfield 46, 3, 11, 5, .null, (.object "HundredWords$Tongue")) := by decide +kernel
theorem jF_28_49 : j_F 28 49 = some (.aload_n 0, 1, 0, 0, .null, .int) := by decide +kernel
theorem jF_28_50 : j_F 28 50 = some (.getfield 52, 3, 11, 6, .null, (.object "HundredWords$Row")) := by decide +kernel
theorem jF_28_53 : j_F 28 53 = some (.invokevirtual 117, 3, 71, 1, .null, .int) := by decide +kernel
theorem jF_28_56 : j_F 28 56 = some (.aload_n 0, 1, 0, 0, .null, .int) := by decide +kernel
theorem jF_28_57 : j_F 28 57 = some (.getfield 56, 3, 11, 7, .null, (.object "HundredWords$Row")) := by decide +kernel
theorem jF_28_60 : j_F 28 60 = some (.invokevirtual 117, 3, 71, 1, .null, .int) := by decide +kernel
theorem jF_28_63 : j_F 28 63 = some (.aload_n 0, 1, 0, 0, .null, .int) := by decide +kernel
theorem jF_28_64 : j_F 28 64 = some (.getfield 68, 3, 11, 10, .null, (.object "HundredWords$Acts")) := by decide +kernel
theorem jF_28_67 : j_F 28 67 = some (.invokevirtual 120, 3, 72, 1, .null, .int) := by decide +kernel
theorem jF_28_70 : j_F 28 70 = some (.aload_n 0, 1, 0, 0, .null, .int) := by decide +kernel
theorem jF_28_71 : j_F 28 71 = some (.getfield 75, 3, 11, 11, .null, (.object "HundredWords$Shorts")) := by decide +kernel
theorem jF_28_74 : j_F 28 74 = some (.invokevirtual 123, 3, 73, 1, .null, .int) := by decide +kernel
theorem jF_28_77 : j_F 28 77 = some (.iload_n 1, 1, 0, 0, .null, .int) := by decide +kernel
theorem jF_28_78 : j_F 28 78 = some (.ireturn, 1, 0, 0, .null, .int) := by decide +kernel
theorem jF_74_0 : j_F 74 0 = some (.aload_n 0, 1, 0, 0, .null, .int) := by decide +kernel
theorem jF_74_1 : j_F 74 1 = some (.getfield 28, 3, 11, 2, .null, (.object "HundredWords$LawReader")) := by decide +kernel
theorem jF_74_4 : j_F 74 4 = some (.aload_n 0, 1, 0, 0, .null, .int) := by decide +kernel
theorem jF_74_5 : j_F 74 5 = some (.getfield 42, 3, 11, 4, .null, (.object "HundredWords$Tongue")) := by decide +kernel
theorem jF_74_8 : j_F 74 8 = some (.aload_n 0, 1, 0, 0, .null, .int) := by decide +kernel
theorem jF_74_9 : j_F 74 9 = some (.getfield 59, 3, 11, 8, .null, (.object "HundredWords$Row")) := by decide +kernel
theorem jF_74_12 : j_F 74 12 = some (.invokevirtual 124, 3, 75, 3, .null, .int) := by decide +kernel
theorem jF_74_15 : j_F 74 15 = some (.istore_n 2, 1, 0, 0, .null, .int) := by decide +kernel
theorem jF_74_16 : j_F 74 16 = some (.aload_n 0, 1, 0, 0, .null, .int) := by decide +kernel
theorem jF_74_17 : j_F 74 17 = some (.getfield 10, 3, 11, 0, .null, (.object "HundredWords$Tape")) := by decide +kernel
theorem jF_74_20 : j_F 74 20 = some (.iconst 0, 1, 0, 0, .null, .int) := by decide +kernel
theorem jF_74_21 : j_F 74 21 = some (.putfield 101, 3, 6, 1, .null, .int) := by decide +kernel
theorem jF_74_24 : j_F 74 24 = some (.iload_n 2, 1, 0, 0, .null, .int) := by decide +kernel
theorem jF_74_25 : j_F 74 25 = some (.ifCond .ne 9, 3, 34, 0, .null, .int) := by decide +kernel
theorem jF_74_28 : j_F 74 28 = some (.aload_n 0, 1, 0, 0, .null, .int) := by decide +kernel
theorem jF_74_29 : j_F 74 29 = some (.iconst 1, 1, 0, 0, .null, .int) := by decide +kernel
theorem jF_74_30 : j_F 74 30 = some (.invokevirtual 105, 3, 25, 2, .null, .int) := by decide +kernel
theorem jF_74_33 : j_F 74 33 = some (.ireturn, 1, 0, 0, .null, .int) := by decide +kernel
theorem jF_74_34 : j_F 74 34 = some (.aload_n 0, 1, 0, 0, .null, .int) := by decide +kernel
theorem jF_74_35 : j_F 74 35 = some (.getfield 59, 3, 11, 8, .null, (.object "HundredWords$Row")) := by decide +kernel
theorem jF_74_38 : j_F 74 38 = some (.aload_n 0, 1, 0, 0, .null, .int) := by decide +kernel
theorem jF_74_39 : j_F 74 39 = some (.getfield 42, 3, 11, 4, .null, (.object "HundredWords$Tongue")) := by decide +kernel
theorem jF_74_42 : j_F 74 42 = some (.invokevirtual 127, 3, 82, 2, .null, .int) := by decide +kernel
theorem jF_74_45 : j_F 74 45 = some (.iload_n 1, 1, 0, 0, .null, .int) := by decide +kernel
theorem jF_74_46 : j_F 74 46 = some (.ifCond .eq 33, 3, 79, 0, .null, .int) := by decide +kernel
theorem jF_74_49 : j_F 74 49 = some (.aload_n 0, 1, 0, 0, .null, .int) := by decide +kernel
theorem jF_74_50 : j_F 74 50 = some (.getfield 56, 3, 11, 7, .null, (.object "HundredWords$Row")) := by decide +kernel
theorem jF_74_53 : j_F 74 53 = some (.aload_n 0, 1, 0, 0, .null, .int) := by decide +kernel
theorem jF_74_54 : j_F 74 54 = some (.getfield 59, 3, 11, 8, .null, (.object "HundredWords$Row")) := by decide +kernel
theorem jF_74_57 : j_F 74 57 = some (.invokevirtual 131, 3, 84, 2, .null, .int) := by decide +kernel
theorem jF_74_60 : j_F 74 60 = some (.aload_n 0, 1, 0, 0, .null, .int) := by decide +kernel
theorem jF_74_61 : j_F 74 61 = some (.getfield 56, 3, 11, 7, .null, (.object "HundredWords$Row")) := by decide +kernel
theorem jF_74_64 : j_F 74 64 = some (.aload_n 0, 1, 0, 0, .null, .int) := by decide +kernel
theorem jF_74_65 : j_F 74 65 = some (.getfield 42, 3, 11, 4, .null, (.object "HundredWords$Tongue")) := by decide +kernel
theorem jF_74_68 : j_F 74 68 = some (.invokevirtual 127, 3, 82, 2, .null, .int) := by decide +kernel
theorem jF_74_71 : j_F 74 71 = some (.aload_n 0, 1, 0, 0, .null, .int) := by decide +kernel
theorem jF_74_72 : j_F 74 72 = some (.getfield 56, 3, 11, 7, .null, (.object "HundredWords$Row")) := by decide +kernel
theorem jF_74_75 : j_F 74 75 = some (.getfield 135, 3, 4, 2, .null, .int) := by decide +kernel
theorem jF_74_78 : j_F 74 78 = some (.ireturn, 1, 0, 0, .null, .int) := by decide +kernel
theorem jF_74_79 : j_F 74 79 = some (.aload_n 0, 1, 0, 0, .null, .int) := by decide +kernel
theorem jF_74_80 : j_F 74 80 = some (.getfield 42, 3, 11, 4, .null, (.object "HundredWords$Tongue")) := by decide +kernel
theorem jF_74_83 : j_F 74 83 = some (.aload_n 0, 1, 0, 0, .null, .int) := by decide +kernel
theorem jF_74_84 : j_F 74 84 = some (.getfield 59, 3, 11, 8, .null, (.object "HundredWords$Row")) := by decide +kernel
theorem jF_74_87 : j_F 74 87 = some (.getfield 138, 3, 4, 7, .null, .long) := by decide +kernel
theorem jF_74_90 : j_F 74 90 = some (.invokevirtual 141, 3, 85, 2, .null, .int) := by decide +kernel
theorem jF_74_93 : j_F 74 93 = some (.ifCond .ne 12, 3, 105, 0, .null, .int) := by decide +kernel
theorem jF_74_96 : j_F 74 96 = some (.aload_n 0, 1, 0, 0, .null, .int) := by decide +kernel
theorem jF_74_97 : j_F 74 97 = some (.iconst 1, 1, 0, 0, .null, .int) := by decide +kernel
theorem jF_74_98 : j_F 74 98 = some (.invokevirtual 105, 3, 25, 2, .null, .int) := by decide +kernel
theorem jF_74_101 : j_F 74 101 = some (.pop, 1, 0, 0, .null, .int) := by decide +kernel
theorem jF_74_102 : j_F 74 102 = some (.bipush (-2), 2, 0, 0, .null, .int) := by decide +kernel
theorem jF_74_104 : j_F 74 104 = some (.ireturn, 1, 0, 0, .null, .int) := by decide +kernel
theorem jF_74_105 : j_F 74 105 = some (.aload_n 0, 1, 0, 0, .null, .int) := by decide +kernel
theorem jF_74_106 : j_F 74 106 = some (.invokevirtual 145, 3, 87, 1, .null, .int) := by decide +kernel
theorem jF_74_109 : j_F 74 109 = some (.ireturn, 1, 0, 0, .null, .int) := by decide +kernel
theorem jF_87_0 : j_F 87 0 = some (.aload_n 0, 1, 0, 0, .null, .int) := by decide +kernel
theorem jF_87_1 : j_F 87 1 = some (.getfield 68, 3, 11, 10, .null, (.object "HundredWords$Acts")) := by decide +kernel
theorem jF_87_4 : j_F 87 4 = some (.aload_n 0, 1, 0, 0, .null, .int) := by decide +kernel
theorem jF_87_5 : j_F 87 5 = some (.getfield 52, 3, 11, 6, .null, (.object "HundredWords$Row")) := by decide +kernel
theorem jF_87_8 : j_F 87 8 = some (.invokevirtual 286, 3, 88, 2, .null, .int) := by decide +kernel
theorem jF_87_11 : j_F 87 11 = some (.aload_n 0, 1, 0, 0, .null, .int) := by decide +kernel
theorem jF_87_12 : j_F 87 12 = some (.getfield 52, 3, 11, 6, .null, (.object "HundredWords$Row")) := by decide +kernel
theorem jF_87_15 : j_F 87 15 = some (.aload_n 0, 1, 0, 0, .null, .int) := by decide +kernel
theorem jF_87_16 : j_F 87 16 = some (.getfield 59, 3, 11, 8, .null, (.object "HundredWords$Row")) := by decide +kernel
theorem jF_87_19 : j_F 87 19 = some (.invokevirtual 131, 3, 84, 2, .null, .int) := by decide +kernel
theorem jF_87_22 : j_F 87 22 = some (.aload_n 0, 1, 0, 0, .null, .int) := by decide +kernel
theorem jF_87_23 : j_F 87 23 = some (.getfield 52, 3, 11, 6, .null, (.object "HundredWords$Row")) := by decide +kernel
theorem jF_87_26 : j_F 87 26 = some (.aload_n 0, 1, 0, 0, .null, .int) := by decide +kernel
theorem jF_87_27 : j_F 87 27 = some (.getfield 42, 3, 11, 4, .null, (.object "HundredWords$Tongue")) := by decide +kernel
theorem jF_87_30 : j_F 87 30 = some (.invokevirtual 127, 3, 82, 2, .null, .int) := by decide +kernel
theorem jF_87_33 : j_F 87 33 = some (.aload_n 0, 1, 0, 0, .null, .int) := by decide +kernel
theorem jF_87_34 : j_F 87 34 = some (.getfield 52, 3, 11, 6, .null, (.object "HundredWords$Row")) := by decide +kernel
theorem jF_87_37 : j_F 87 37 = some (.getfield 135, 3, 4, 2, .null, .int) := by decide +kernel
theorem jF_87_40 : j_F 87 40 = some (.ireturn, 1, 0, 0, .null, .int) := by decide +kernel
theorem jF_89_0 : j_F 89 0 = some (.iload_n 1, 1, 0, 0, .null, .int) := by decide +kernel
theorem jF_89_1 : j_F 89 1 = some (.ifCond .ne 11, 3, 12, 0, .null, .int) := by decide +kernel
theorem jF_89_4 : j_F 89 4 = some (.aload_n 0, 1, 0, 0, .null, .int) := by decide +kernel
theorem jF_89_5 : j_F 89 5 = some (.getfield 10, 3, 11, 0, .null, (.object "HundredWords$Tape")) := by decide +kernel
theorem jF_89_8 : j_F 89 8 = some (.getfield 149, 3, 6, 3, .null, .int) := by decide +kernel
theorem jF_89_11 : j_F 89 11 = some (.ireturn, 1, 0, 0, .null, .int) := by decide +kernel
theorem jF_89_12 : j_F 89 12 = some (.iload_n 1, 1, 0, 0, .null, .int) := by decide +kernel
theorem jF_89_13 : j_F 89 13 = some (.iconst 1, 1, 0, 0, .null, .int) := by decide +kernel
theorem jF_89_14 : j_F 89 14 = some (.if_icmp .ne 13, 3, 27, 0, .null, .int) := by decide +kernel
theorem jF_89_17 : j_F 89 17 = some (.aload_n 0, 1, 0, 0, .null, .int) := by decide +kernel
theorem jF_89_18 : j_F 89 18 = some (.getfield 10, 3, 11, 0, .null, (.object "HundredWords$Tape")) := by decide +kernel
theorem jF_89_21 : j_F 89 21 = some (.getfield 152, 3, 6, 4, .null, .int) := by decide +kernel
theorem jF_89_24 : j_F 89 24 = some (.goto 4, 3, 28, 0, .null, .int) := by decide +kernel
theorem jF_89_27 : j_F 89 27 = some (.iconst (-1), 1, 0, 0, .null, .int) := by decide +kernel
theorem jF_89_28 : j_F 89 28 = some (.ireturn, 1, 0, 0, .null, .int) := by decide +kernel
theorem jF_90_0 : j_F 90 0 = some (.iload_n 1, 1, 0, 0, .null, .int) := by decide +kernel
theorem jF_90_1 : j_F 90 1 = some (.bipush 10, 2, 0, 0, .null, .int) := by decide +kernel
theorem jF_90_3 : j_F 90 3 = some (.if_icmp .ne 13, 3, 16, 0, .null, .int) := by decide +kernel
theorem jF_90_6 : j_F 90 6 = some (.aload_n 0, 1, 0, 0, .null, .int) := by decide +kernel
theorem jF_90_7 : j_F 90 7 = some (.getfield 68, 3, 11, 10, .null, (.object "HundredWords$Acts")) := by decide +kernel
theorem jF_90_10 : j_F 90 10 = some (.getfield 155, 3, 0, 3, .null, .int) := by decide +kernel
theorem jF_90_13 : j_F 90 13 = some (.goto 11, 3, 24, 0, .null, .int) := by decide +kernel
theorem jF_90_16 : j_F 90 16 = some (.aload_n 0, 1, 0, 0, .null, .int) := by decide +kernel
theorem jF_90_17 : j_F 90 17 = some (.getfield 42, 3, 11, 4, .null, (.object "HundredWords$Tongue")) := by decide +kernel
theorem jF_90_20 : j_F 90 20 = some (.iload_n 1, 1, 0, 0, .null, .int) := by decide +kernel
theorem jF_90_21 : j_F 90 21 = some (.invokevirtual 158, 3, 91, 2, .null, .int) := by decide +kernel
theorem jF_90_24 : j_F 90 24 = some (.ireturn, 1, 0, 0, .null, .int) := by decide +kernel
theorem jF_92_0 : j_F 92 0 = some (.aload_n 0, 1, 0, 0, .null, .int) := by decide +kernel
theorem jF_92_1 : j_F 92 1 = some (.getfield 42, 3, 11, 4, .null, (.object "HundredWords$Tongue")) := by decide +kernel
theorem jF_92_4 : j_F 92 4 = some (.iload_n 1, 1, 0, 0, .null, .int) := by decide +kernel
theorem jF_92_5 : j_F 92 5 = some (.iload_n 2, 1, 0, 0, .null, .int) := by decide +kernel
theorem jF_92_6 : j_F 92 6 = some (.invokevirtual 161, 3, 93, 3, .null, .int) := by decide +kernel
theorem jF_92_9 : j_F 92 9 = some (.ireturn, 1, 0, 0, .null, .int) := by decide +kernel
theorem jF_94_0 : j_F 94 0 = some (.iload_n 1, 1, 0, 0, .null, .int) := by decide +kernel
theorem jF_94_1 : j_F 94 1 = some (.ifCond .eq 10, 3, 11, 0, .null, .int) := by decide +kernel
theorem jF_94_4 : j_F 94 4 = some (.aload_n 0, 1, 0, 0, .null, .int) := by decide +kernel
theorem jF_94_5 : j_F 94 5 = some (.getfield 56, 3, 11, 7, .null, (.object "HundredWords$Row")) := by decide +kernel
theorem jF_94_8 : j_F 94 8 = some (.goto 7, 3, 15, 0, .null, .int) := by decide +kernel
theorem jF_94_11 : j_F 94 11 = some (.aload_n 0, 1, 0, 0, .null, .int) := by decide +kernel
theorem jF_94_12 : j_F 94 12 = some (.getfield 52, 3, 11, 6, .null, (.object "HundredWords$Row")) := by decide +kernel
theorem jF_94_15 : j_F 94 15 = some (.astore_n 3, 1, 0, 0, .null, .int) := by decide +kernel
theorem jF_94_16 : j_F 94 16 = some (.iload_n 2, 1, 0, 0, .null, .int) := by decide +kernel
theorem jF_94_17 : j_F 94 17 = some (.iconst (-1), 1, 0, 0, .null, .int) := by decide +kernel
theorem jF_94_18 : j_F 94 18 = some (.if_icmp .ne 8, 3, 26, 0, .null, .int) := by decide +kernel
theorem jF_94_21 : j_F 94 21 = some (.aload_n 3, 1, 0, 0, .null, .int) := by decide +kernel
theorem jF_94_22 : j_F 94 22 = some (.getfield 165, 3, 4, 1, .null, .int) := by decide +kernel
theorem jF_94_25 : j_F 94 25 = some (.ireturn, 1, 0, 0, .null, .int) := by decide +kernel
theorem jF_94_26 : j_F 94 26 = some (.iload_n 2, 1, 0, 0, .null, .int) := by decide +kernel
theorem jF_94_27 : j_F 94 27 = some (.ifCond .lt 20, 3, 47, 0, .null, .int) := by decide +kernel
theorem jF_94_30 : j_F 94 30 = some (.iload_n 2, 1, 0, 0, .null, .int) := by decide +kernel
theorem jF_94_31 : j_F 94 31 = some (.aload_n 3, 1, 0, 0, .null, .int) := by decide +kernel
theorem jF_94_32 : j_F 94 32 = some (.getfield 165, 3, 4, 1, .null, .int) := by decide +kernel
theorem jF_94_35 : j_F 94 35 = some (.if_icmp .ge 12, 3, 47, 0, .null, .int) := by decide +kernel
theorem jF_94_38 : j_F 94 38 = some (.aload_n 3, 1, 0, 0, .null, .int) := by decide +kernel
theorem jF_94_39 : j_F 94 39 = some (.getfield 168, 3, 4, 0, .null, (.array .int)) := by decide +kernel
theorem jF_94_42 : j_F 94 42 = some (.iload_n 2, 1, 0, 0, .null, .int) := by decide +kernel
theorem jF_94_43 : j_F 94 43 = some (.iaload, 1, 0, 0, .null, .int) := by decide +kernel
theorem jF_94_44 : j_F 94 44 = some (.goto 4, 3, 48, 0, .null, .int) := by decide +kernel
theorem jF_94_47 : j_F 94 47 = some (.iconst (-1), 1, 0, 0, .null, .int) := by decide +kernel
theorem jF_94_48 : j_F 94 48 = some (.ireturn, 1, 0, 0, .null, .int) := by decide +kernel
theorem jF_95_0 : j_F 95 0 = some (.iload_n 1, 1, 0, 0, .null, .int) := by decide +kernel
theorem jF_95_1 : j_F 95 1 = some (.ifCond .eq 10, 3, 11, 0, .null, .int) := by decide +kernel
theorem jF_95_4 : j_F 95 4 = some (.aload_n 0, 1, 0, 0, .null, .int) := by decide +kernel
theorem jF_95_5 : j_F 95 5 = some (.getfield 56, 3, 11, 7, .null, (.object "HundredWords$Row")) := by decide +kernel
theorem jF_95_8 : j_F 95 8 = some (.goto 7, 3, 15, 0, .null, .int) := by decide +kernel
theorem jF_95_11 : j_F 95 11 = some (.aload_n 0, 1, 0, 0, .null, .int) := by decide +kernel
theorem jF_95_12 : j_F 95 12 = some (.getfield 52, 3, 11, 6, .null, (.object "HundredWords$Row")) := by decide +kernel
theorem jF_95_15 : j_F 95 15 = some (.astore_n 3, 1, 0, 0, .null, .int) := by decide +kernel
theorem jF_95_16 : j_F 95 16 = some (.iload_n 2, 1, 0, 0, .null, .int) := by decide +kernel
theorem jF_95_17 : j_F 95 17 = some (.tableswitch 81 0 4 #[35, 40, 45, 53, 58], 35, 0, 0, .null, .int) := by decide +kernel
theorem jF_95_52 : j_F 95 52 = some (.aload_n 3, 1, 0, 0, .null, .int) := by decide +kernel
theorem jF_95_53 : j_F 95 53 = some (.getfield 135, 3, 4, 2, .null, .int) := by decide +kernel
theorem jF_95_56 : j_F 95 56 = some (.ireturn, 1, 0, 0, .null, .int) := by decide +kernel
theorem jF_95_57 : j_F 95 57 = some (.aload_n 3, 1, 0, 0, .null, .int) := by decide +kernel
theorem jF_95_58 : j_F 95 58 = some (.getfield 171, 3, 4, 6, .null, .int) := by decide +kernel
theorem jF_95_61 : j_F 95 61 = some (.ireturn, 1, 0, 0, .null, .int) := by decide +kernel
theorem jF_95_62 : j_F 95 62 = some (.aload_n 3, 1, 0, 0, .null, .int) := by decide +kernel
theorem jF_95_63 : j_F 95 63 = some (.getfield 138, 3, 4, 7, .null, .long) := by decide +kernel
theorem jF_95_66 : j_F 95 66 = some (.invokestatic 174, 3, 96, 1, .null, .int) := by decide +kernel
theorem jF_95_69 : j_F 95 69 = some (.ireturn, 1, 0, 0, .null, .int) := by decide +kernel
theorem jF_95_70 : j_F 95 70 = some (.aload_n 3, 1, 0, 0, .null, .int) := by decide +kernel
theorem jF_95_71 : j_F 95 71 = some (.invokevirtual 180, 3, 97, 1, .null, .int) := by decide +kernel
theorem jF_95_74 : j_F 95 74 = some (.ireturn, 1, 0, 0, .null, .int) := by decide +kernel
theorem jF_95_75 : j_F 95 75 = some (.iload_n 1, 1, 0, 0, .null, .int) := by decide +kernel
theorem jF_95_76 : j_F 95 76 = some (.ifCond .eq 7, 3, 83, 0, .null, .int) := by decide +kernel
theorem jF_95_79 : j_F 95 79 = some (.iconst (-1), 1, 0, 0, .null, .int) := by decide +kernel
theorem jF_95_80 : j_F 95 80 = some (.goto 17, 3, 97, 0, .null, .int) := by decide +kernel
theorem jF_95_83 : j_F 95 83 = some (.aload_n 0, 1, 0, 0, .null, .int) := by decide +kernel
theorem jF_95_84 : j_F 95 84 = some (.getfield 42, 3, 11, 4, .null, (.object "HundredWords$Tongue")) := by decide +kernel
theorem jF_95_87 : j_F 95 87 = some (.aload_n 3, 1, 0, 0, .null, .int) := by decide +kernel
theorem jF_95_88 : j_F 95 88 = some (.getfield 138, 3, 4, 7, .null, .long) := by decide +kernel
theorem jF_95_91 : j_F 95 91 = some (.invokevirtual 141, 3, 85, 2, .null, .int) := by decide +kernel
theorem jF_95_94 : j_F 95 94 = some (.invokestatic 183, 3, 98, 1, .null, .int) := by decide +kernel
theorem jF_95_97 : j_F 95 97 = some (.ireturn, 1, 0, 0, .null, .int) := by decide +kernel
theorem jF_95_98 : j_F 95 98 = some (.iconst (-1), 1, 0, 0, .null, .int) := by decide +kernel
theorem jF_95_99 : j_F 95 99 = some (.ireturn, 1, 0, 0, .null, .int) := by decide +kernel
theorem jF_99_0 : j_F 99 0 = some (.aload_n 0, 1, 0, 0, .null, .int) := by decide +kernel
theorem jF_99_1 : j_F 99 1 = some (.getfield 42, 3, 11, 4, .null, (.object "HundredWords$Tongue")) := by decide +kernel
theorem jF_99_4 : j_F 99 4 = some (.iload_n 2, 1, 0, 0, .null, .int) := by decide +kernel
theorem jF_99_5 : j_F 99 5 = some (.invokevirtual 187, 3, 100, 2, .null, .int) := by decide +kernel
theorem jF_99_8 : j_F 99 8 = some (.ifCond .ne 5, 3, 13, 0, .null, .int) := by decide +kernel
theorem jF_99_11 : j_F 99 11 = some (.iconst (-1), 1, 0, 0, .null, .int) := by decide +kernel
theorem jF_99_12 : j_F 99 12 = some (.ireturn, 1, 0, 0, .null, .int) := by decide +kernel
theorem jF_99_13 : j_F 99 13 = some (.iload_n 1, 1, 0, 0, .null, .int) := by decide +kernel
theorem jF_99_14 : j_F 99 14 = some (.ifCond .eq 10, 3, 24, 0, .null, .int) := by decide +kernel
theorem jF_99_17 : j_F 99 17 = some (.aload_n 0, 1, 0, 0, .null, .int) := by decide +kernel
theorem jF_99_18 : j_F 99 18 = some (.getfield 56, 3, 11, 7, .null, (.object "HundredWords$Row")) := by decide +kernel
theorem jF_99_21 : j_F 99 21 = some (.goto 7, 3, 28, 0, .null, .int) := by decide +kernel
theorem jF_99_24 : j_F 99 24 = some (.aload_n 0, 1, 0, 0, .null, .int) := by decide +kernel
theorem jF_99_25 : j_F 99 25 = some (.getfield 52, 3, 11, 6, .null, (.object "HundredWords$Row")) := by decide +kernel
theorem jF_99_28 : j_F 99 28 = some (.astore_n 3, 1, 0, 0, .null, .int) := by decide +kernel
theorem jF_99_29 : j_F 99 29 = some (.aload_n 3, 1, 0, 0, .null, .int) := by decide +kernel
theorem jF_99_30 : j_F 99 30 = some (.getfield 138, 3, 4, 7, .null, .long) := by decide +kernel
theorem jF_99_33 : j_F 99 33 = some (.iload_n 2, 1, 0, 0, .null, .int) := by decide +kernel
theorem jF_99_34 : j_F 99 34 = some (.invokestatic 191, 3, 101, 2, .null, .int) := by decide +kernel
theorem jF_99_37 : j_F 99 37 = some (.invokestatic 183, 3, 98, 1, .null, .int) := by decide +kernel
theorem jF_99_40 : j_F 99 40 = some (.ireturn, 1, 0, 0, .null, .int) := by decide +kernel
theorem jF_102_0 : j_F 102 0 = some (.aload_n 0, 1, 0, 0, .null, .int) := by decide +kernel
theorem jF_102_1 : j_F 102 1 = some (.getfield 42, 3, 11, 4, .null, (.object "HundredWords$Tongue")) := by decide +kernel
theorem jF_102_4 : j_F 102 4 = some (.iload_n 1, 1, 0, 0, .null, .int) := by decide +kernel
theorem jF_102_5 : j_F 102 5 = some (.invokevirtual 187, 3, 100, 2, .null, .int) := by decide +kernel
theorem jF_102_8 : j_F 102 8 = some (.ifCond .eq 15, 3, 23, 0, .null, .int) := by decide +kernel
theorem jF_102_11 : j_F 102 11 = some (.aload_n 0, 1, 0, 0, .null, .int) := by decide +kernel
theorem jF_102_12 : j_F 102 12 = some (.getfield 52, 3, 11, 6, .null, (.object "HundredWords$Row")) := by decide +kernel
theorem jF_102_15 : j_F 102 15 = some (.iload_n 1, 1, 0, 0, .null, .int) := by decide +kernel
theorem jF_102_16 : j_F 102 16 = some (.iload_n 2, 1, 0, 0, .null, .int) := by decide +kernel
theorem jF_102_17 : j_F 102 17 = some (.invokevirtual 195, 3, 103, 3, .null, .int) := by decide +kernel
theorem jF_102_20 : j_F 102 20 = some (.goto 4, 3, 24, 0, .null, .int) := by decide +kernel
theorem jF_102_23 : j_F 102 23 = some (.iconst (-1), 1, 0, 0, .null, .int) := by decide +kernel
theorem jF_102_24 : j_F 102 24 = some (.ireturn, 1, 0, 0, .null, .int) := by decide +kernel
theorem jF_104_0 : j_F 104 0 = some (.aload_n 0, 1, 0, 0, .null, .int) := by decide +kernel
theorem jF_104_1 : j_F 104 1 = some (.getfield 42, 3, 11, 4, .null, (.object "HundredWords$Tongue")) := by decide +kernel
theorem jF_104_4 : j_F 104 4 = some (.iload_n 1, 1, 0, 0, .null, .int) := by decide +kernel
theorem jF_104_5 : j_F 104 5 = some (.invokevirtual 187, 3, 100, 2, .null, .int) := by decide +kernel
theorem jF_104_8 : j_F 104 8 = some (.ifCond .eq 21, 3, 29, 0, .null, .int) := by decide +kernel
theorem jF_104_11 : j_F 104 11 = some (.aload_n 0, 1, 0, 0, .null, .int) := by decide +kernel
theorem jF_104_12 : j_F 104 12 = some (.getfield 52, 3, 11, 6, .null, (.object "HundredWords$Row")) := by decide +kernel
theorem jF_104_15 : j_F 104 15 = some (.getfield 138, 3, 4, 7, .null, .long) := by decide +kernel
theorem jF_104_18 : j_F 104 18 = some (.iload_n 1, 1, 0, 0, .null, .int) := by decide +kernel
theorem jF_104_19 : j_F 104 19 = some (.invokestatic 191, 3, 101, 2, .null, .int) := by decide +kernel
theorem jF_104_22 : j_F 104 22 = some (.ifCond .eq 7, 3, 29, 0, .null, .int) := by decide +kernel
theorem jF_104_25 : j_F 104 25 = some (.iload_n 2, 1, 0, 0, .null, .int) := by decide +kernel
theorem jF_104_26 : j_F 104 26 = some (.ifCond .ge 5, 3, 31, 0, .null, .int) := by decide +kernel
theorem jF_104_29 : j_F 104 29 = some (.iconst (-1), 1, 0, 0, .null, .int) := by decide +kernel
theorem jF_104_30 : j_F 104 30 = some (.ireturn, 1, 0, 0, .null, .int) := by decide +kernel
theorem jF_104_31 : j_F 104 31 = some (.iconst 0, 1, 0, 0, .null, .int) := by decide +kernel
theorem jF_104_32 : j_F 104 32 = some (.istore_n 3, 1, 0, 0, .null, .int) := by decide +kernel
theorem jF_104_33 : j_F 104 33 = some (.iconst 0, 1, 0, 0, .null, .int) := by decide +kernel
theorem jF_104_34 : j_F 104 34 = some (.istore 4, 2, 0, 0, .null, .int) := by decide +kernel
theorem jF_104_36 : j_F 104 36 = some (.iload 4, 2, 0, 0, .null, .int) := by decide +kernel
theorem jF_104_38 : j_F 104 38 = some (.aload_n 0, 1, 0, 0, .null, .int) := by decide +kernel
theorem jF_104_39 : j_F 104 39 = some (.getfield 52, 3, 11, 6, .null, (.object "HundredWords$Row")) := by decide +kernel
theorem jF_104_42 : j_F 104 42 = some (.getfield 165, 3, 4, 1, .null, .int) := by decide +kernel
theorem jF_104_45 : j_F 104 45 = some (.if_icmp .ge 57, 3, 102, 0, .null, .int) := by decide +kernel
theorem jF_104_48 : j_F 104 48 = some (.aload_n 0, 1, 0, 0, .null, .int) := by decide +kernel
theorem jF_104_49 : j_F 104 49 = some (.getfield 59, 3, 11, 8, .null, (.object "HundredWords$Row")) := by decide +kernel
theorem jF_104_52 : j_F 104 52 = some (.aload_n 0, 1, 0, 0, .null, .int) := by decide +kernel
theorem jF_104_53 : j_F 104 53 = some (.getfield 42, 3, 11, 4, .null, (.object "HundredWords$Tongue")) := by decide +kernel
theorem jF_104_56 : j_F 104 56 = some (.aload_n 0, 1, 0, 0, .null, .int) := by decide +kernel
theorem jF_104_57 : j_F 104 57 = some (.getfield 52, 3, 11, 6, .null, (.object "HundredWords$Row")) := by decide +kernel
theorem jF_104_60 : j_F 104 60 = some (.iload 4, 2, 0, 0, .null, .int) := by decide +kernel
theorem jF_104_62 : j_F 104 62 = some (.bipush 47, 2, 0, 0, .null, .int) := by decide +kernel
theorem jF_104_64 : j_F 104 64 = some (.imul, 1, 0, 0, .null, .int) := by decide +kernel
theorem jF_104_65 : j_F 104 65 = some (.invokevirtual 198, 3, 105, 4, .null, .int) := by decide +kernel
theorem jF_104_68 : j_F 104 68 = some (.ifCond .eq 28, 3, 96, 0, .null, .int) := by decide +kernel
theorem jF_104_71 : j_F 104 71 = some (.aload_n 0, 1, 0, 0, .null, .int) := by decide +kernel
theorem jF_104_72 : j_F 104 72 = some (.getfield 59, 3, 11, 8, .null, (.object "HundredWords$Row")) := by decide +kernel
theorem jF_104_75 : j_F 104 75 = some (.getfield 138, 3, 4, 7, .null, .long) := by decide +kernel
theorem jF_104_78 : j_F 104 78 = some (.iload_n 1, 1, 0, 0, .null, .int) := by decide +kernel
theorem jF_104_79 : j_F 104 79 = some (.invokestatic 191, 3, 101, 2, .null, .int) := by decide +kernel
theorem jF_104_82 : j_F 104 82 = some (.ifCond .ne 14, 3, 96, 0, .null, .int) := by decide +kernel
theorem jF_104_85 : j_F 104 85 = some (.iload_n 3, 1, 0, 0, .null, .int) := by decide +kernel
theorem jF_104_86 : j_F 104 86 = some (.iload_n 2, 1, 0, 0, .null, .int) := by decide +kernel
theorem jF_104_87 : j_F 104 87 = some (.if_icmp .ne 6, 3, 93, 0, .null, .int) := by decide +kernel
theorem jF_104_90 : j_F 104 90 = some (.iload 4, 2, 0, 0, .null, .int) := by decide +kernel
theorem jF_104_92 : j_F 104 92 = some (.ireturn, 1, 0, 0, .null, .int) := by decide +kernel
theorem jF_104_93 : j_F 104 93 = some (.iinc 3 1, 3, 0, 0, .null, .int) := by decide +kernel
theorem jF_104_96 : j_F 104 96 = some (.iinc 4 1, 3, 0, 0, .null, .int) := by decide +kernel
theorem jF_104_99 : j_F 104 99 = some (.goto (-63), 3, 36, 0, .null, .int) := by decide +kernel
theorem jF_104_102 : j_F 104 102 = some (.iconst (-1), 1, 0, 0, .null, .int) := by decide +kernel
theorem jF_104_103 : j_F 104 103 = some (.ireturn, 1, 0, 0, .null, .int) := by decide +kernel
theorem jF_113_0 : j_F 113 0 = some (.iload_n 1, 1, 0, 0, .null, .int) := by decide +kernel
theorem jF_113_1 : j_F 113 1 = some (.ifCond .lt 36, 3, 37, 0, .null, .int) := by decide +kernel
theorem jF_113_4 : j_F 113 4 = some (.iload_n 1, 1, 0, 0, .null, .int) := by decide +kernel
theorem jF_113_5 : j_F 113 5 = some (.aload_n 0, 1, 0, 0, .null, .int) := by decide +kernel
theorem jF_113_6 : j_F 113 6 = some (.getfield 52, 3, 11, 6, .null, (.object "HundredWords$Row")) := by decide +kernel
theorem jF_113_9 : j_F 113 9 = some (.getfield 165, 3, 4, 1, .null, .int) := by decide +kernel
theorem jF_113_12 : j_F 113 12 = some (.if_icmp .ge 25, 3, 37, 0, .null, .int) := by decide +kernel
theorem jF_113_15 : j_F 113 15 = some (.aload_n 0, 1, 0, 0, .null, .int) := by decide +kernel
theorem jF_113_16 : j_F 113 16 = some (.getfield 59, 3, 11, 8, .null, (.object "HundredWords$Row")) := by decide +kernel
theorem jF_113_19 : j_F 113 19 = some (.aload_n 0, 1, 0, 0, .null, .int) := by decide +kernel
theorem jF_113_20 : j_F 113 20 = some (.getfield 42, 3, 11, 4, .null, (.object "HundredWords$Tongue")) := by decide +kernel
theorem jF_113_23 : j_F 113 23 = some (.aload_n 0, 1, 0, 0, .null, .int) := by decide +kernel
theorem jF_113_24 : j_F 113 24 = some (.getfield 52, 3, 11, 6, .null, (.object "HundredWords$Row")) := by decide +kernel
theorem jF_113_27 : j_F 113 27 = some (.iload_n 1, 1, 0, 0, .null, .int) := by decide +kernel
theorem jF_113_28 : j_F 113 28 = some (.bipush 47, 2, 0, 0, .null, .int) := by decide +kernel
theorem jF_113_30 : j_F 113 30 = some (.imul, 1, 0, 0, .null, .int) := by decide +kernel
theorem jF_113_31 : j_F 113 31 = some (.invokevirtual 198, 3, 105, 4, .null, .int) := by decide +kernel
theorem jF_113_34 : j_F 113 34 = some (.ifCond .ne 5, 3, 39, 0, .null, .int) := by decide +kernel
theorem jF_113_37 : j_F 113 37 = some (.iconst (-1), 1, 0, 0, .null, .int) := by decide +kernel
theorem jF_113_38 : j_F 113 38 = some (.ireturn, 1, 0, 0, .null, .int) := by decide +kernel
theorem jF_113_39 : j_F 113 39 = some (.aload_n 0, 1, 0, 0, .null, .int) := by decide +kernel
theorem jF_113_40 : j_F 113 40 = some (.getfield 59, 3, 11, 8, .null, (.object "HundredWords$Row")) := by decide +kernel
theorem jF_113_43 : j_F 113 43 = some (.getfield 138, 3, 4, 7, .null, .long) := by decide +kernel
theorem jF_113_46 : j_F 113 46 = some (.aload_n 0, 1, 0, 0, .null, .int) := by decide +kernel
theorem jF_113_47 : j_F 113 47 = some (.getfield 52, 3, 11, 6, .null, (.object "HundredWords$Row")) := by decide +kernel
theorem jF_113_50 : j_F 113 50 = some (.getfield 138, 3, 4, 7, .null, .long) := by decide +kernel
theorem jF_113_53 : j_F 113 53 = some (.lxor, 1, 0, 0, .null, .int) := by decide +kernel
theorem jF_113_54 : j_F 113 54 = some (.invokestatic 174, 3, 96, 1, .null, .int) := by decide +kernel
theorem jF_113_57 : j_F 113 57 = some (.ireturn, 1, 0, 0, .null, .int) := by decide +kernel
theorem jF_114_0 : j_F 114 0 = some (.aload_n 0, 1, 0, 0, .null, .int) := by decide +kernel
theorem jF_114_1 : j_F 114 1 = some (.iload_n 1, 1, 0, 0, .null, .int) := by decide +kernel
theorem jF_114_2 : j_F 114 2 = some (.iload_n 2, 1, 0, 0, .null, .int) := by decide +kernel
theorem jF_114_3 : j_F 114 3 = some (.invokevirtual 202, 3, 115, 3, .null, .int) := by decide +kernel
theorem jF_114_6 : j_F 114 6 = some (.ifCond .eq 19, 3, 25, 0, .null, .int) := by decide +kernel
theorem jF_114_9 : j_F 114 9 = some (.aload_n 0, 1, 0, 0, .null, .int) := by decide +kernel
theorem jF_114_10 : j_F 114 10 = some (.iload_n 1, 1, 0, 0, .null, .int) := by decide +kernel
theorem jF_114_11 : j_F 114 11 = some (.bipush 47, 2, 0, 0, .null, .int) := by decide +kernel
theorem jF_114_13 : j_F 114 13 = some (.imul, 1, 0, 0, .null, .int) := by decide +kernel
theorem jF_114_14 : j_F 114 14 = some (.bipush 24, 2, 0, 0, .null, .int) := by decide +kernel
theorem jF_114_16 : j_F 114 16 = some (.iadd, 1, 0, 0, .null, .int) := by decide +kernel
theorem jF_114_17 : j_F 114 17 = some (.iload_n 2, 1, 0, 0, .null, .int) := by decide +kernel
theorem jF_114_18 : j_F 114 18 = some (.iadd, 1, 0, 0, .null, .int) := by decide +kernel
theorem jF_114_19 : j_F 114 19 = some (.invokevirtual 206, 3, 116, 2, .null, .int) := by decide +kernel
theorem jF_114_22 : j_F 114 22 = some (.goto 8, 3, 30, 0, .null, .int) := by decide +kernel
theorem jF_114_25 : j_F 114 25 = some (.aload_n 0, 1, 0, 0, .null, .int) := by decide +kernel
theorem jF_114_26 : j_F 114 26 = some (.iconst 2, 1, 0, 0, .null, .int) := by decide +kernel
theorem jF_114_27 : j_F 114 27 = some (.invokevirtual 105, 3, 25, 2, .null, .int) := by decide +kernel
theorem jF_114_30 : j_F 114 30 = some (.ireturn, 1, 0, 0, .null, .int) := by decide +kernel
theorem jF_115_0 : j_F 115 0 = some (.iload_n 1, 1, 0, 0, .null, .int) := by decide +kernel
theorem jF_115_1 : j_F 115 1 = some (.ifCond .lt 28, 3, 29, 0, .null, .int) := by decide +kernel
theorem jF_115_4 : j_F 115 4 = some (.iload_n 1, 1, 0, 0, .null, .int) := by decide +kernel
theorem jF_115_5 : j_F 115 5 = some (.aload_n 0, 1, 0, 0, .null, .int) := by decide +kernel
theorem jF_115_6 : j_F 115 6 = some (.getfield 52, 3, 11, 6, .null, (.object "HundredWords$Row")) := by decide +kernel
theorem jF_115_9 : j_F 115 9 = some (.getfield 165, 3, 4, 1, .null, .int) := by decide +kernel
theorem jF_115_12 : j_F 115 12 = some (.if_icmp .gt 17, 3, 29, 0, .null, .int) := by decide +kernel
theorem jF_115_15 : j_F 115 15 = some (.iload_n 2, 1, 0, 0, .null, .int) := by decide +kernel
theorem jF_115_16 : j_F 115 16 = some (.ifCond .lt 13, 3, 29, 0, .null, .int) := by decide +kernel
theorem jF_115_19 : j_F 115 19 = some (.iload_n 2, 1, 0, 0, .null, .int) := by decide +kernel
theorem jF_115_20 : j_F 115 20 = some (.bipush 23, 2, 0, 0, .null, .int) := by decide +kernel
theorem jF_115_22 : j_F 115 22 = some (.if_icmp .ge 7, 3, 29, 0, .null, .int) := by decide +kernel
theorem jF_115_25 : j_F 115 25 = some (.iconst 1, 1, 0, 0, .null, .int) := by decide +kernel
theorem jF_115_26 : j_F 115 26 = some (.goto 4, 3, 30, 0, .null, .int) := by decide +kernel
theorem jF_115_29 : j_F 115 29 = some (.iconst 0, 1, 0, 0, .null, .int) := by decide +kernel
theorem jF_115_30 : j_F 115 30 = some (.ireturn, 1, 0, 0, .null, .boolean) := by decide +kernel
theorem jF_116_0 : j_F 116 0 = some (.aload_n 0, 1, 0, 0, .null, .int) := by decide +kernel
theorem jF_116_1 : j_F 116 1 = some (.iload_n 1, 1, 0, 0, .null, .int) := by decide +kernel
theorem jF_116_2 : j_F 116 2 = some (.invokevirtual 264, 3, 117, 2, .null, .int) := by decide +kernel
theorem jF_116_5 : j_F 116 5 = some (.ifCond .eq 10, 3, 15, 0, .null, .int) := by decide +kernel
theorem jF_116_8 : j_F 116 8 = some (.aload_n 0, 1, 0, 0, .null, .int) := by decide +kernel
theorem jF_116_9 : j_F 116 9 = some (.invokevirtual 145, 3, 87, 1, .null, .int) := by decide +kernel
theorem jF_116_12 : j_F 116 12 = some (.goto 8, 3, 20, 0, .null, .int) := by decide +kernel
theorem jF_116_15 : j_F 116 15 = some (.aload_n 0, 1, 0, 0, .null, .int) := by decide +kernel
theorem jF_116_16 : j_F 116 16 = some (.iconst 2, 1, 0, 0, .null, .int) := by decide +kernel
theorem jF_116_17 : j_F 116 17 = some (.invokevirtual 105, 3, 25, 2, .null, .int) := by decide +kernel
theorem jF_116_20 : j_F 116 20 = some (.ireturn, 1, 0, 0, .null, .int) := by decide +kernel
theorem jF_117_0 : j_F 117 0 = some (.aload_n 0, 1, 0, 0, .null, .int) := by decide +kernel
theorem jF_117_1 : j_F 117 1 = some (.getfield 59, 3, 11, 8, .null, (.object "HundredWords$Row")) := by decide +kernel
theorem jF_117_4 : j_F 117 4 = some (.aload_n 0, 1, 0, 0, .null, .int) := by decide +kernel
theorem jF_117_5 : j_F 117 5 = some (.getfield 42, 3, 11, 4, .null, (.object "HundredWords$Tongue")) := by decide +kernel
theorem jF_117_8 : j_F 117 8 = some (.aload_n 0, 1, 0, 0, .null, .int) := by decide +kernel
theorem jF_117_9 : j_F 117 9 = some (.getfield 52, 3, 11, 6, .null, (.object "HundredWords$Row")) := by decide +kernel
theorem jF_117_12 : j_F 117 12 = some (.iload_n 1, 1, 0, 0, .null, .int) := by decide +kernel
theorem jF_117_13 : j_F 117 13 = some (.invokevirtual 198, 3, 105, 4, .null, .int) := by decide +kernel
theorem jF_117_16 : j_F 117 16 = some (.ifCond .eq 24, 3, 40, 0, .null, .int) := by decide +kernel
theorem jF_117_19 : j_F 117 19 = some (.aload_n 0, 1, 0, 0, .null, .int) := by decide +kernel
theorem jF_117_20 : j_F 117 20 = some (.getfield 42, 3, 11, 4, .null, (.object "HundredWords$Tongue")) := by decide +kernel
theorem jF_117_23 : j_F 117 23 = some (.aload_n 0, 1, 0, 0, .null, .int) := by decide +kernel
theorem jF_117_24 : j_F 117 24 = some (.getfield 59, 3, 11, 8, .null, (.object "HundredWords$Row")) := by decide +kernel
theorem jF_117_27 : j_F 117 27 = some (.getfield 138, 3, 4, 7, .null, .long) := by decide +kernel
theorem jF_117_30 : j_F 117 30 = some (.invokevirtual 141, 3, 85, 2, .null, .int) := by decide +kernel
theorem jF_117_33 : j_F 117 33 = some (.ifCond .eq 7, 3, 40, 0, .null, .int) := by decide +kernel
theorem jF_117_36 : j_F 117 36 = some (.iconst 1, 1, 0, 0, .null, .int) := by decide +kernel
theorem jF_117_37 : j_F 117 37 = some (.goto 4, 3, 41, 0, .null, .int) := by decide +kernel
theorem jF_117_40 : j_F 117 40 = some (.iconst 0, 1, 0, 0, .null, .int) := by decide +kernel
theorem jF_117_41 : j_F 117 41 = some (.ireturn, 1, 0, 0, .null, .boolean) := by decide +kernel
theorem jF_118_0 : j_F 118 0 = some (.aload_n 0, 1, 0, 0, .null, .int) := by decide +kernel
theorem jF_118_1 : j_F 118 1 = some (.iload_n 1, 1, 0, 0, .null, .int) := by decide +kernel
theorem jF_118_2 : j_F 118 2 = some (.iconst 0, 1, 0, 0, .null, .int) := by decide +kernel
theorem jF_118_3 : j_F 118 3 = some (.invokevirtual 202, 3, 115, 3, .null, .int) := by decide +kernel
theorem jF_118_6 : j_F 118 6 = some (.ifCond .eq 14, 3, 20, 0, .null, .int) := by decide +kernel
theorem jF_118_9 : j_F 118 9 = some (.aload_n 0, 1, 0, 0, .null, .int) := by decide +kernel
theorem jF_118_10 : j_F 118 10 = some (.iload_n 1, 1, 0, 0, .null, .int) := by decide +kernel
theorem jF_118_11 : j_F 118 11 = some (.bipush 47, 2, 0, 0, .null, .int) := by decide +kernel
theorem jF_118_13 : j_F 118 13 = some (.imul, 1, 0, 0, .null, .int) := by decide +kernel
theorem jF_118_14 : j_F 118 14 = some (.invokevirtual 206, 3, 116, 2, .null, .int) := by decide +kernel
theorem jF_118_17 : j_F 118 17 = some (.goto 8, 3, 25, 0, .null, .int) := by decide +kernel
theorem jF_118_20 : j_F 118 20 = some (.aload_n 0, 1, 0, 0, .null, .int) := by decide +kernel
theorem jF_118_21 : j_F 118 21 = some (.iconst 2, 1, 0, 0, .null, .int) := by decide +kernel
theorem jF_118_22 : j_F 118 22 = some (.invokevirtual 105, 3, 25, 2, .null, .int) := by decide +kernel
theorem jF_118_25 : j_F 118 25 = some (.ireturn, 1, 0, 0, .null, .int) := by decide +kernel
theorem jF_119_0 : j_F 119 0 = some (.aload_n 0, 1, 0, 0, .null, .int) := by decide +kernel
theorem jF_119_1 : j_F 119 1 = some (.iload_n 1, 1, 0, 0, .null, .int) := by decide +kernel
theorem jF_119_2 : j_F 119 2 = some (.iload_n 2, 1, 0, 0, .null, .int) := by decide +kernel
theorem jF_119_3 : j_F 119 3 = some (.invokevirtual 202, 3, 115, 3, .null, .int) := by decide +kernel
theorem jF_119_6 : j_F 119 6 = some (.ifCond .eq 18, 3, 24, 0, .null, .int) := by decide +kernel
theorem jF_119_9 : j_F 119 9 = some (.aload_n 0, 1, 0, 0, .null, .int) := by decide +kernel
theorem jF_119_10 : j_F 119 10 = some (.iload_n 1, 1, 0, 0, .null, .int) := by decide +kernel
theorem jF_119_11 : j_F 119 11 = some (.bipush 47, 2, 0, 0, .null, .int) := by decide +kernel
theorem jF_119_13 : j_F 119 13 = some (.imul, 1, 0, 0, .null, .int) := by decide +kernel
theorem jF_119_14 : j_F 119 14 = some (.iconst 1, 1, 0, 0, .null, .int) := by decide +kernel
theorem jF_119_15 : j_F 119 15 = some (.iadd, 1, 0, 0, .null, .int) := by decide +kernel
theorem jF_119_16 : j_F 119 16 = some (.iload_n 2, 1, 0, 0, .null, .int) := by decide +kernel
theorem jF_119_17 : j_F 119 17 = some (.iadd, 1, 0, 0, .null, .int) := by decide +kernel
theorem jF_119_18 : j_F 119 18 = some (.invokevirtual 206, 3, 116, 2, .null, .int) := by decide +kernel
theorem jF_119_21 : j_F 119 21 = some (.goto 8, 3, 29, 0, .null, .int) := by decide +kernel
theorem jF_119_24 : j_F 119 24 = some (.aload_n 0, 1, 0, 0, .null, .int) := by decide +kernel
theorem jF_119_25 : j_F 119 25 = some (.iconst 2, 1, 0, 0, .null, .int) := by decide +kernel
theorem jF_119_26 : j_F 119 26 = some (.invokevirtual 105, 3, 25, 2, .null, .int) := by decide +kernel
theorem jF_119_29 : j_F 119 29 = some (.ireturn, 1, 0, 0, .null, .int) := by decide +kernel
theorem jF_120_0 : j_F 120 0 = some (.aload_n 0, 1, 0, 0, .null, .int) := by decide +kernel
theorem jF_120_1 : j_F 120 1 = some (.getfield 68, 3, 11, 10, .null, (.object "HundredWords$Acts")) := by decide +kernel
theorem jF_120_4 : j_F 120 4 = some (.getfield 155, 3, 0, 3, .null, .int) := by decide +kernel
theorem jF_120_7 : j_F 120 7 = some (.ifCond .ne 11, 3, 18, 0, .null, .int) := by decide +kernel
theorem jF_120_10 : j_F 120 10 = some (.aload_n 0, 1, 0, 0, .null, .int) := by decide +kernel
theorem jF_120_11 : j_F 120 11 = some (.iconst 3, 1, 0, 0, .null, .int) := by decide +kernel
theorem jF_120_12 : j_F 120 12 = some (.invokevirtual 105, 3, 25, 2, .null, .int) := by decide +kernel
theorem jF_120_15 : j_F 120 15 = some (.pop, 1, 0, 0, .null, .int) := by decide +kernel
theorem jF_120_16 : j_F 120 16 = some (.iconst 0, 1, 0, 0, .null, .int) := by decide +kernel
theorem jF_120_17 : j_F 120 17 = some (.ireturn, 1, 0, 0, .null, .boolean) := by decide +kernel
theorem jF_120_18 : j_F 120 18 = some (.aload_n 0, 1, 0, 0, .null, .int) := by decide +kernel
theorem jF_120_19 : j_F 120 19 = some (.getfield 68, 3, 11, 10, .null, (.object "HundredWords$Acts")) := by decide +kernel
theorem jF_120_22 : j_F 120 22 = some (.aload_n 0, 1, 0, 0, .null, .int) := by decide +kernel
theorem jF_120_23 : j_F 120 23 = some (.getfield 52, 3, 11, 6, .null, (.object "HundredWords$Row")) := by decide +kernel
theorem jF_120_26 : j_F 120 26 = some (.invokevirtual 209, 3, 121, 2, .null, .int) := by decide +kernel
theorem jF_120_29 : j_F 120 29 = some (.aload_n 0, 1, 0, 0, .null, .int) := by decide +kernel
theorem jF_120_30 : j_F 120 30 = some (.getfield 52, 3, 11, 6, .null, (.object "HundredWords$Row")) := by decide +kernel
theorem jF_120_33 : j_F 120 33 = some (.aload_n 0, 1, 0, 0, .null, .int) := by decide +kernel
theorem jF_120_34 : j_F 120 34 = some (.getfield 42, 3, 11, 4, .null, (.object "HundredWords$Tongue")) := by decide +kernel
theorem jF_120_37 : j_F 120 37 = some (.invokevirtual 127, 3, 82, 2, .null, .int) := by decide +kernel
theorem jF_120_40 : j_F 120 40 = some (.iconst 1, 1, 0, 0, .null, .int) := by decide +kernel
theorem jF_120_41 : j_F 120 41 = some (.ireturn, 1, 0, 0, .null, .boolean) := by decide +kernel
theorem jF_122_0 : j_F 122 0 = some (.iload_n 1, 1, 0, 0, .null, .int) := by decide +kernel
theorem jF_122_1 : j_F 122 1 = some (.tableswitch 51 0 2 #[27, 36, 43], 27, 0, 0, .null, .int) := by decide +kernel
theorem jF_122_28 : j_F 122 28 = some (.aload_n 0, 1, 0, 0, .null, .int) := by decide +kernel
theorem jF_122_29 : j_F 122 29 = some (.bipush 24, 2, 0, 0, .null, .int) := by decide +kernel
theorem jF_122_31 : j_F 122 31 = some (.bipush 47, 2, 0, 0, .null, .int) := by decide +kernel
theorem jF_122_33 : j_F 122 33 = some (.invokevirtual 212, 3, 123, 3, .null, .int) := by decide +kernel
theorem jF_122_36 : j_F 122 36 = some (.ireturn, 1, 0, 0, .null, .int) := by decide +kernel
theorem jF_122_37 : j_F 122 37 = some (.aload_n 0, 1, 0, 0, .null, .int) := by decide +kernel
theorem jF_122_38 : j_F 122 38 = some (.iconst 0, 1, 0, 0, .null, .int) := by decide +kernel
theorem jF_122_39 : j_F 122 39 = some (.iconst 1, 1, 0, 0, .null, .int) := by decide +kernel
theorem jF_122_40 : j_F 122 40 = some (.invokevirtual 212, 3, 123, 3, .null, .int) := by decide +kernel
theorem jF_122_43 : j_F 122 43 = some (.ireturn, 1, 0, 0, .null, .int) := by decide +kernel
theorem jF_122_44 : j_F 122 44 = some (.aload_n 0, 1, 0, 0, .null, .int) := by decide +kernel
theorem jF_122_45 : j_F 122 45 = some (.iconst 1, 1, 0, 0, .null, .int) := by decide +kernel
theorem jF_122_46 : j_F 122 46 = some (.bipush 24, 2, 0, 0, .null, .int) := by decide +kernel
theorem jF_122_48 : j_F 122 48 = some (.invokevirtual 212, 3, 123, 3, .null, .int) := by decide +kernel
theorem jF_122_51 : j_F 122 51 = some (.ireturn, 1, 0, 0, .null, .int) := by decide +kernel
theorem jF_122_52 : j_F 122 52 = some (.iconst (-1), 1, 0, 0, .null, .int) := by decide +kernel
theorem jF_122_53 : j_F 122 53 = some (.ireturn, 1, 0, 0, .null, .int) := by decide +kernel
theorem jF_123_0 : j_F 123 0 = some (.iconst 0, 1, 0, 0, .null, .int) := by decide +kernel
theorem jF_123_1 : j_F 123 1 = some (.istore_n 3, 1, 0, 0, .null, .int) := by decide +kernel
theorem jF_123_2 : j_F 123 2 = some (.iconst 0, 1, 0, 0, .null, .int) := by decide +kernel
theorem jF_123_3 : j_F 123 3 = some (.istore 4, 2, 0, 0, .null, .int) := by decide +kernel
theorem jF_123_5 : j_F 123 5 = some (.iload 4, 2, 0, 0, .null, .int) := by decide +kernel
theorem jF_123_7 : j_F 123 7 = some (.aload_n 0, 1, 0, 0, .null, .int) := by decide +kernel
theorem jF_123_8 : j_F 123 8 = some (.getfield 52, 3, 11, 6, .null, (.object "HundredWords$Row")) := by decide +kernel
theorem jF_123_11 : j_F 123 11 = some (.getfield 165, 3, 4, 1, .null, .int) := by decide +kernel
theorem jF_123_14 : j_F 123 14 = some (.if_icmp .gt 42, 3, 56, 0, .null, .int) := by decide +kernel
theorem jF_123_17 : j_F 123 17 = some (.iload_n 1, 1, 0, 0, .null, .int) := by decide +kernel
theorem jF_123_18 : j_F 123 18 = some (.istore 5, 2, 0, 0, .null, .int) := by decide +kernel
theorem jF_123_20 : j_F 123 20 = some (.iload 5, 2, 0, 0, .null, .int) := by decide +kernel
theorem jF_123_22 : j_F 123 22 = some (.iload_n 2, 1, 0, 0, .null, .int) := by decide +kernel
theorem jF_123_23 : j_F 123 23 = some (.if_icmp .ge 27, 3, 50, 0, .null, .int) := by decide +kernel
theorem jF_123_26 : j_F 123 26 = some (.aload_n 0, 1, 0, 0, .null, .int) := by decide +kernel
theorem jF_123_27 : j_F 123 27 = some (.iload 4, 2, 0, 0, .null, .int) := by decide +kernel
theorem jF_123_29 : j_F 123 29 = some (.bipush 47, 2, 0, 0, .null, .int) := by decide +kernel
theorem jF_123_31 : j_F 123 31 = some (.imul, 1, 0, 0, .null, .int) := by decide +kernel
theorem jF_123_32 : j_F 123 32 = some (.iload 5, 2, 0, 0, .null, .int) := by decide +kernel
theorem jF_123_34 : j_F 123 34 = some (.iadd, 1, 0, 0, .null, .int) := by decide +kernel
theorem jF_123_35 : j_F 123 35 = some (.invokevirtual 264, 3, 117, 2, .null, .int) := by decide +kernel
theorem jF_123_38 : j_F 123 38 = some (.ifCond .eq 6, 3, 44, 0, .null, .int) := by decide +kernel
theorem jF_123_41 : j_F 123 41 = some (.iinc 3 1, 3, 0, 0, .null, .int) := by decide +kernel
theorem jF_123_44 : j_F 123 44 = some (.iinc 5 1, 3, 0, 0, .null, .int) := by decide +kernel
theorem jF_123_47 : j_F 123 47 = some (.goto (-27), 3, 20, 0, .null, .int) := by decide +kernel
theorem jF_123_50 : j_F 123 50 = some (.iinc 4 1, 3, 0, 0, .null, .int) := by decide +kernel
theorem jF_123_53 : j_F 123 53 = some (.goto (-48), 3, 5, 0, .null, .int) := by decide +kernel
theorem jF_123_56 : j_F 123 56 = some (.iload_n 3, 1, 0, 0, .null, .int) := by decide +kernel
theorem jF_123_57 : j_F 123 57 = some (.ireturn, 1, 0, 0, .null, .int) := by decide +kernel
theorem jF_124_0 : j_F 124 0 = some (.iload_n 1, 1, 0, 0, .null, .int) := by decide +kernel
theorem jF_124_1 : j_F 124 1 = some (.ifCond .eq 10, 3, 11, 0, .null, .int) := by decide +kernel
theorem jF_124_4 : j_F 124 4 = some (.aload_n 0, 1, 0, 0, .null, .int) := by decide +kernel
theorem jF_124_5 : j_F 124 5 = some (.getfield 56, 3, 11, 7, .null, (.object "HundredWords$Row")) := by decide +kernel
theorem jF_124_8 : j_F 124 8 = some (.goto 7, 3, 15, 0, .null, .int) := by decide +kernel
theorem jF_124_11 : j_F 124 11 = some (.aload_n 0, 1, 0, 0, .null, .int) := by decide +kernel
theorem jF_124_12 : j_F 124 12 = some (.getfield 52, 3, 11, 6, .null, (.object "HundredWords$Row")) := by decide +kernel
theorem jF_124_15 : j_F 124 15 = some (.astore_n 3, 1, 0, 0, .null, .int) := by decide +kernel
theorem jF_124_16 : j_F 124 16 = some (.aload_n 0, 1, 0, 0, .null, .int) := by decide +kernel
theorem jF_124_17 : j_F 124 17 = some (.getfield 75, 3, 11, 11, .null, (.object "HundredWords$Shorts")) := by decide +kernel
theorem jF_124_20 : j_F 124 20 = some (.aload_n 0, 1, 0, 0, .null, .int) := by decide +kernel
theorem jF_124_21 : j_F 124 21 = some (.getfield 42, 3, 11, 4, .null, (.object "HundredWords$Tongue")) := by decide +kernel
theorem jF_124_24 : j_F 124 24 = some (.aload_n 3, 1, 0, 0, .null, .int) := by decide +kernel
theorem jF_124_25 : j_F 124 25 = some (.getfield 138, 3, 4, 7, .null, .long) := by decide +kernel
theorem jF_124_28 : j_F 124 28 = some (.iload_n 1, 1, 0, 0, .null, .int) := by decide +kernel
theorem jF_124_29 : j_F 124 29 = some (.invokestatic 183, 3, 98, 1, .null, .int) := by decide +kernel
theorem jF_124_32 : j_F 124 32 = some (.iload_n 2, 1, 0, 0, .null, .int) := by decide +kernel
theorem jF_124_33 : j_F 124 33 = some (.invokevirtual 215, 3, 125, 5, .null, .int) := by decide +kernel
theorem jF_124_36 : j_F 124 36 = some (.ireturn, 1, 0, 0, .null, .int) := by decide +kernel
theorem jF_140_0 : j_F 140 0 = some (.aload_n 0, 1, 0, 0, .null, .int) := by decide +kernel
theorem jF_140_1 : j_F 140 1 = some (.getfield 75, 3, 11, 11, .null, (.object "HundredWords$Shorts")) := by decide +kernel
theorem jF_140_4 : j_F 140 4 = some (.aload_n 0, 1, 0, 0, .null, .int) := by decide +kernel
theorem jF_140_5 : j_F 140 5 = some (.getfield 42, 3, 11, 4, .null, (.object "HundredWords$Tongue")) := by decide +kernel
theorem jF_140_8 : j_F 140 8 = some (.invokevirtual 219, 3, 141, 2, .null, .int) := by decide +kernel
theorem jF_140_11 : j_F 140 11 = some (.ireturn, 1, 0, 0, .null, .int) := by decide +kernel
theorem jF_142_0 : j_F 142 0 = some (.aload_n 0, 1, 0, 0, .null, .int) := by decide +kernel
theorem jF_142_1 : j_F 142 1 = some (.getfield 75, 3, 11, 11, .null, (.object "HundredWords$Shorts")) := by decide +kernel
theorem jF_142_4 : j_F 142 4 = some (.aload_n 0, 1, 0, 0, .null, .int) := by decide +kernel
theorem jF_142_5 : j_F 142 5 = some (.getfield 42, 3, 11, 4, .null, (.object "HundredWords$Tongue")) := by decide +kernel
theorem jF_142_8 : j_F 142 8 = some (.iload_n 1, 1, 0, 0, .null, .int) := by decide +kernel
theorem jF_142_9 : j_F 142 9 = some (.iload_n 2, 1, 0, 0, .null, .int) := by decide +kernel
theorem jF_142_10 : j_F 142 10 = some (.invokevirtual 222, 3, 143, 4, .null, .int) := by decide +kernel
theorem jF_142_13 : j_F 142 13 = some (.ireturn, 1, 0, 0, .null, .int) := by decide +kernel
theorem jF_144_0 : j_F 144 0 = some (.aload_n 0, 1, 0, 0, .null, .int) := by decide +kernel
theorem jF_144_1 : j_F 144 1 = some (.getfield 82, 3, 11, 12, .null, (.object "HundredWords$Way")) := by decide +kernel
theorem jF_144_4 : j_F 144 4 = some (.aload_n 0, 1, 0, 0, .null, .int) := by decide +kernel
theorem jF_144_5 : j_F 144 5 = some (.getfield 42, 3, 11, 4, .null, (.object "HundredWords$Tongue")) := by decide +kernel
theorem jF_144_8 : j_F 144 8 = some (.aload_n 0, 1, 0, 0, .null, .int) := by decide +kernel
theorem jF_144_9 : j_F 144 9 = some (.getfield 52, 3, 11, 6, .null, (.object "HundredWords$Row")) := by decide +kernel
theorem jF_144_12 : j_F 144 12 = some (.aload_n 0, 1, 0, 0, .null, .int) := by decide +kernel
theorem jF_144_13 : j_F 144 13 = some (.getfield 56, 3, 11, 7, .null, (.object "HundredWords$Row")) := by decide +kernel
theorem jF_144_16 : j_F 144 16 = some (.invokevirtual 226, 3, 145, 4, .null, .int) := by decide +kernel
theorem jF_144_19 : j_F 144 19 = some (.ireturn, 1, 0, 0, .null, .int) := by decide +kernel
theorem jF_151_0 : j_F 151 0 = some (.iload_n 1, 1, 0, 0, .null, .int) := by decide +kernel
theorem jF_151_1 : j_F 151 1 = some (.ifCond .eq 25, 3, 26, 0, .null, .int) := by decide +kernel
theorem jF_151_4 : j_F 151 4 = some (.aload_n 0, 1, 0, 0, .null, .int) := by decide +kernel
theorem jF_151_5 : j_F 151 5 = some (.getfield 56, 3, 11, 7, .null, (.object "HundredWords$Row")) := by decide +kernel
theorem jF_151_8 : j_F 151 8 = some (.getfield 138, 3, 4, 7, .null, .long) := by decide +kernel
theorem jF_151_11 : j_F 151 11 = some (.aload_n 0, 1, 0, 0, .null, .int) := by decide +kernel
theorem jF_151_12 : j_F 151 12 = some (.getfield 52, 3, 11, 6, .null, (.object "HundredWords$Row")) := by decide +kernel
theorem jF_151_15 : j_F 151 15 = some (.getfield 138, 3, 4, 7, .null, .long) := by decide +kernel
theorem jF_151_18 : j_F 151 18 = some (.ldc2_w 230, 3, 0, 0, (.long (-1)), .int) := by decide +kernel
theorem jF_151_21 : j_F 151 21 = some (.lxor, 1, 0, 0, .null, .int) := by decide +kernel
theorem jF_151_22 : j_F 151 22 = some (.land, 1, 0, 0, .null, .int) := by decide +kernel
theorem jF_151_23 : j_F 151 23 = some (.goto 22, 3, 45, 0, .null, .int) := by decide +kernel
theorem jF_151_26 : j_F 151 26 = some (.aload_n 0, 1, 0, 0, .null, .int) := by decide +kernel
theorem jF_151_27 : j_F 151 27 = some (.getfield 52, 3, 11, 6, .null, (.object "HundredWords$Row")) := by decide +kernel
theorem jF_151_30 : j_F 151 30 = some (.getfield 138, 3, 4, 7, .null, .long) := by decide +kernel
theorem jF_151_33 : j_F 151 33 = some (.aload_n 0, 1, 0, 0, .null, .int) := by decide +kernel
theorem jF_151_34 : j_F 151 34 = some (.getfield 56, 3, 11, 7, .null, (.object "HundredWords$Row")) := by decide +kernel
theorem jF_151_37 : j_F 151 37 = some (.getfield 138, 3, 4, 7, .null, .long) := by decide +kernel
theorem jF_151_40 : j_F 151 40 = some (.ldc2_w 230, 3, 0, 0, (.long (-1)), .int) := by decide +kernel
theorem jF_151_43 : j_F 151 43 = some (.lxor, 1, 0, 0, .null, .int) := by decide +kernel
theorem jF_151_44 : j_F 151 44 = some (.land, 1, 0, 0, .null, .int) := by decide +kernel
theorem jF_151_45 : j_F 151 45 = some (.lstore_n 3, 1, 0, 0, .null, .int) := by decide +kernel
theorem jF_151_46 : j_F 151 46 = some (.lload_n 3, 1, 0, 0, .null, .int) := by decide +kernel
theorem jF_151_47 : j_F 151 47 = some (.iload_n 2, 1, 0, 0, .null, .int) := by decide +kernel
theorem jF_151_48 : j_F 151 48 = some (.invokestatic 232, 3, 152, 2, .null, .int) := by decide +kernel
theorem jF_151_51 : j_F 151 51 = some (.ireturn, 1, 0, 0, .null, .int) := by decide +kernel
theorem jF_152_0 : j_F 152 0 = some (.iconst 0, 1, 0, 0, .null, .int) := by decide +kernel
theorem jF_152_1 : j_F 152 1 = some (.istore_n 3, 1, 0, 0, .null, .int) := by decide +kernel
theorem jF_152_2 : j_F 152 2 = some (.iconst 0, 1, 0, 0, .null, .int) := by decide +kernel
theorem jF_152_3 : j_F 152 3 = some (.istore 4, 2, 0, 0, .null, .int) := by decide +kernel
theorem jF_152_5 : j_F 152 5 = some (.iload 4, 2, 0, 0, .null, .int) := by decide +kernel
theorem jF_152_7 : j_F 152 7 = some (.bipush 64, 2, 0, 0, .null, .int) := by decide +kernel
theorem jF_152_9 : j_F 152 9 = some (.if_icmp .ge 29, 3, 38, 0, .null, .int) := by decide +kernel
theorem jF_152_12 : j_F 152 12 = some (.lload_n 0, 1, 0, 0, .null, .int) := by decide +kernel
theorem jF_152_13 : j_F 152 13 = some (.iload 4, 2, 0, 0, .null, .int) := by decide +kernel
theorem jF_152_15 : j_F 152 15 = some (.invokestatic 191, 3, 101, 2, .null, .int) := by decide +kernel
theorem jF_152_18 : j_F 152 18 = some (.ifCond .eq 14, 3, 32, 0, .null, .int) := by decide +kernel
theorem jF_152_21 : j_F 152 21 = some (.iload_n 3, 1, 0, 0, .null, .int) := by decide +kernel
theorem jF_152_22 : j_F 152 22 = some (.iload_n 2, 1, 0, 0, .null, .int) := by decide +kernel
theorem jF_152_23 : j_F 152 23 = some (.if_icmp .ne 6, 3, 29, 0, .null, .int) := by decide +kernel
theorem jF_152_26 : j_F 152 26 = some (.iload 4, 2, 0, 0, .null, .int) := by decide +kernel
theorem jF_152_28 : j_F 152 28 = some (.ireturn, 1, 0, 0, .null, .int) := by decide +kernel
theorem jF_152_29 : j_F 152 29 = some (.iinc 3 1, 3, 0, 0, .null, .int) := by decide +kernel
theorem jF_152_32 : j_F 152 32 = some (.iinc 4 1, 3, 0, 0, .null, .int) := by decide +kernel
theorem jF_152_35 : j_F 152 35 = some (.goto (-30), 3, 5, 0, .null, .int) := by decide +kernel
theorem jF_152_38 : j_F 152 38 = some (.iconst (-1), 1, 0, 0, .null, .int) := by decide +kernel
theorem jF_152_39 : j_F 152 39 = some (.ireturn, 1, 0, 0, .null, .int) := by decide +kernel
theorem jF_153_0 : j_F 153 0 = some (.aload_n 0, 1, 0, 0, .null, .int) := by decide +kernel
theorem jF_153_1 : j_F 153 1 = some (.getfield 52, 3, 11, 6, .null, (.object "HundredWords$Row")) := by decide +kernel
theorem jF_153_4 : j_F 153 4 = some (.getfield 138, 3, 4, 7, .null, .long) := by decide +kernel
theorem jF_153_7 : j_F 153 7 = some (.aload_n 0, 1, 0, 0, .null, .int) := by decide +kernel
theorem jF_153_8 : j_F 153 8 = some (.getfield 56, 3, 11, 7, .null, (.object "HundredWords$Row")) := by decide +kernel
theorem jF_153_11 : j_F 153 11 = some (.getfield 138, 3, 4, 7, .null, .long) := by decide +kernel
theorem jF_153_14 : j_F 153 14 = some (.lxor, 1, 0, 0, .null, .int) := by decide +kernel
theorem jF_153_15 : j_F 153 15 = some (.iconst 0, 1, 0, 0, .null, .int) := by decide +kernel
theorem jF_153_16 : j_F 153 16 = some (.invokestatic 232, 3, 152, 2, .null, .int) := by decide +kernel
theorem jF_153_19 : j_F 153 19 = some (.ireturn, 1, 0, 0, .null, .int) := by decide +kernel
theorem jF_154_0 : j_F 154 0 = some (.iload_n 1, 1, 0, 0, .null, .int) := by decide +kernel
theorem jF_154_1 : j_F 154 1 = some (.ifCond .eq 10, 3, 11, 0, .null, .int) := by decide +kernel
theorem jF_154_4 : j_F 154 4 = some (.aload_n 0, 1, 0, 0, .null, .int) := by decide +kernel
theorem jF_154_5 : j_F 154 5 = some (.getfield 56, 3, 11, 7, .null, (.object "HundredWords$Row")) := by decide +kernel
theorem jF_154_8 : j_F 154 8 = some (.goto 7, 3, 15, 0, .null, .int) := by decide +kernel
theorem jF_154_11 : j_F 154 11 = some (.aload_n 0, 1, 0, 0, .null, .int) := by decide +kernel
theorem jF_154_12 : j_F 154 12 = some (.getfield 52, 3, 11, 6, .null, (.object "HundredWords$Row")) := by decide +kernel
theorem jF_154_15 : j_F 154 15 = some (.astore_n 3, 1, 0, 0, .null, .int) := by decide +kernel
theorem jF_154_16 : j_F 154 16 = some (.aload_n 0, 1, 0, 0, .null, .int) := by decide +kernel
theorem jF_154_17 : j_F 154 17 = some (.getfield 42, 3, 11, 4, .null, (.object "HundredWords$Tongue")) := by decide +kernel
theorem jF_154_20 : j_F 154 20 = some (.iload_n 2, 1, 0, 0, .null, .int) := by decide +kernel
theorem jF_154_21 : j_F 154 21 = some (.aload_n 3, 1, 0, 0, .null, .int) := by decide +kernel
theorem jF_154_22 : j_F 154 22 = some (.getfield 138, 3, 4, 7, .null, .long) := by decide +kernel
theorem jF_154_25 : j_F 154 25 = some (.invokevirtual 236, 3, 155, 3, .null, .int) := by decide +kernel
theorem jF_154_28 : j_F 154 28 = some (.ireturn, 1, 0, 0, .null, .int) := by decide +kernel
theorem jF_157_0 : j_F 157 0 = some (.aload_n 0, 1, 0, 0, .null, .int) := by decide +kernel
theorem jF_157_1 : j_F 157 1 = some (.getfield 42, 3, 11, 4, .null, (.object "HundredWords$Tongue")) := by decide +kernel
theorem jF_157_4 : j_F 157 4 = some (.aload_n 0, 1, 0, 0, .null, .int) := by decide +kernel
theorem jF_157_5 : j_F 157 5 = some (.getfield 52, 3, 11, 6, .null, (.object "HundredWords$Row")) := by decide +kernel
theorem jF_157_8 : j_F 157 8 = some (.getfield 138, 3, 4, 7, .null, .long) := by decide +kernel
theorem jF_157_11 : j_F 157 11 = some (.aload_n 0, 1, 0, 0, .null, .int) := by decide +kernel
theorem jF_157_12 : j_F 157 12 = some (.getfield 56, 3, 11, 7, .null, (.object "HundredWords$Row")) := by decide +kernel
theorem jF_157_15 : j_F 157 15 = some (.getfield 138, 3, 4, 7, .null, .long) := by decide +kernel
theorem jF_157_18 : j_F 157 18 = some (.iload_n 1, 1, 0, 0, .null, .int) := by decide +kernel
theorem jF_157_19 : j_F 157 19 = some (.invokevirtual 240, 3, 158, 4, .null, .int) := by decide +kernel
theorem jF_157_22 : j_F 157 22 = some (.ireturn, 1, 0, 0, .null, .int) := by decide +kernel
theorem jF_160_0 : j_F 160 0 = some (.aload_n 0, 1, 0, 0, .null, .int) := by decide +kernel
theorem jF_160_1 : j_F 160 1 = some (.invokevirtual 244, 3, 161, 1, .null, .int) := by decide +kernel
theorem jF_160_4 : j_F 160 4 = some (.ifCond .ne 7, 3, 11, 0, .null, .int) := by decide +kernel
theorem jF_160_7 : j_F 160 7 = some (.iconst 1, 1, 0, 0, .null, .int) := by decide +kernel
theorem jF_160_8 : j_F 160 8 = some (.goto 4, 3, 12, 0, .null, .int) := by decide +kernel
theorem jF_160_11 : j_F 160 11 = some (.iconst 0, 1, 0, 0, .null, .int) := by decide +kernel
theorem jF_160_12 : j_F 160 12 = some (.invokestatic 183, 3, 98, 1, .null, .int) := by decide +kernel
theorem jF_160_15 : j_F 160 15 = some (.ireturn, 1, 0, 0, .null, .int) := by decide +kernel
theorem jF_161_0 : j_F 161 0 = some (.aload_n 0, 1, 0, 0, .null, .int) := by decide +kernel
theorem jF_161_1 : j_F 161 1 = some (.getfield 52, 3, 11, 6, .null, (.object "HundredWords$Row")) := by decide +kernel
theorem jF_161_4 : j_F 161 4 = some (.getfield 165, 3, 4, 1, .null, .int) := by decide +kernel
theorem jF_161_7 : j_F 161 7 = some (.iconst 1, 1, 0, 0, .null, .int) := by decide +kernel
theorem jF_161_8 : j_F 161 8 = some (.iadd, 1, 0, 0, .null, .int) := by decide +kernel
theorem jF_161_9 : j_F 161 9 = some (.bipush 47, 2, 0, 0, .null, .int) := by decide +kernel
theorem jF_161_11 : j_F 161 11 = some (.imul, 1, 0, 0, .null, .int) := by decide +kernel
theorem jF_161_12 : j_F 161 12 = some (.istore_n 1, 1, 0, 0, .null, .int) := by decide +kernel
theorem jF_161_13 : j_F 161 13 = some (.iconst 0, 1, 0, 0, .null, .int) := by decide +kernel
theorem jF_161_14 : j_F 161 14 = some (.istore_n 2, 1, 0, 0, .null, .int) := by decide +kernel
theorem jF_161_15 : j_F 161 15 = some (.iload_n 2, 1, 0, 0, .null, .int) := by decide +kernel
theorem jF_161_16 : j_F 161 16 = some (.iload_n 1, 1, 0, 0, .null, .int) := by decide +kernel
theorem jF_161_17 : j_F 161 17 = some (.if_icmp .ge 43, 3, 60, 0, .null, .int) := by decide +kernel
theorem jF_161_20 : j_F 161 20 = some (.aload_n 0, 1, 0, 0, .null, .int) := by decide +kernel
theorem jF_161_21 : j_F 161 21 = some (.iload_n 2, 1, 0, 0, .null, .int) := by decide +kernel
theorem jF_161_22 : j_F 161 22 = some (.invokevirtual 264, 3, 117, 2, .null, .int) := by decide +kernel
theorem jF_161_25 : j_F 161 25 = some (.ifCond .eq 29, 3, 54, 0, .null, .int) := by decide +kernel
theorem jF_161_28 : j_F 161 28 = some (.aload_n 0, 1, 0, 0, .null, .int) := by decide +kernel
theorem jF_161_29 : j_F 161 29 = some (.getfield 42, 3, 11, 4, .null, (.object "HundredWords$Tongue")) := by decide +kernel
theorem jF_161_32 : j_F 161 32 = some (.aload_n 0, 1, 0, 0, .null, .int) := by decide +kernel
theorem jF_161_33 : j_F 161 33 = some (.getfield 52, 3, 11, 6, .null, (.object "HundredWords$Row")) := by decide +kernel
theorem jF_161_36 : j_F 161 36 = some (.getfield 138, 3, 4, 7, .null, .long) := by decide +kernel
theorem jF_161_39 : j_F 161 39 = some (.aload_n 0, 1, 0, 0, .null, .int) := by decide +kernel
theorem jF_161_40 : j_F 161 40 = some (.getfield 59, 3, 11, 8, .null, (.object "HundredWords$Row")) := by decide +kernel
theorem jF_161_43 : j_F 161 43 = some (.getfield 138, 3, 4, 7, .null, .long) := by decide +kernel
theorem jF_161_46 : j_F 161 46 = some (.invokevirtual 289, 3, 162, 3, .null, .int) := by decide +kernel
theorem jF_161_49 : j_F 161 49 = some (.ifCond .eq 5, 3, 54, 0, .null, .int) := by decide +kernel
theorem jF_161_52 : j_F 161 52 = some (.iconst 1, 1, 0, 0, .null, .int) := by decide +kernel
theorem jF_161_53 : j_F 161 53 = some (.ireturn, 1, 0, 0, .null, .boolean) := by decide +kernel
theorem jF_161_54 : j_F 161 54 = some (.iinc 2 1, 3, 0, 0, .null, .int) := by decide +kernel
theorem jF_161_57 : j_F 161 57 = some (.goto (-42), 3, 15, 0, .null, .int) := by decide +kernel
theorem jF_161_60 : j_F 161 60 = some (.iconst 0, 1, 0, 0, .null, .int) := by decide +kernel
theorem jF_161_61 : j_F 161 61 = some (.ireturn, 1, 0, 0, .null, .boolean) := by decide +kernel
theorem jF_163_0 : j_F 163 0 = some (.iload_n 1, 1, 0, 0, .null, .int) := by decide +kernel
theorem jF_163_1 : j_F 163 1 = some (.iconst 1, 1, 0, 0, .null, .int) := by decide +kernel
theorem jF_163_2 : j_F 163 2 = some (.if_icmp .lt 9, 3, 11, 0, .null, .int) := by decide +kernel
theorem jF_163_5 : j_F 163 5 = some (.iload_n 1, 1, 0, 0, .null, .int) := by decide +kernel
theorem jF_163_6 : j_F 163 6 = some (.bipush 20, 2, 0, 0, .null, .int) := by decide +kernel
theorem jF_163_8 : j_F 163 8 = some (.if_icmp .le 9, 3, 17, 0, .null, .int) := by decide +kernel
theorem jF_163_11 : j_F 163 11 = some (.aload_n 0, 1, 0, 0, .null, .int) := by decide +kernel
theorem jF_163_12 : j_F 163 12 = some (.iconst 2, 1, 0, 0, .null, .int) := by decide +kernel
theorem jF_163_13 : j_F 163 13 = some (.invokevirtual 105, 3, 25, 2, .null, .int) := by decide +kernel
theorem jF_163_16 : j_F 163 16 = some (.ireturn, 1, 0, 0, .null, .int) := by decide +kernel
theorem jF_163_17 : j_F 163 17 = some (.iconst 0, 1, 0, 0, .null, .int) := by decide +kernel
theorem jF_163_18 : j_F 163 18 = some (.istore_n 2, 1, 0, 0, .null, .int) := by decide +kernel
theorem jF_163_19 : j_F 163 19 = some (.iload_n 2, 1, 0, 0, .null, .int) := by decide +kernel
theorem jF_163_20 : j_F 163 20 = some (.iload_n 1, 1, 0, 0, .null, .int) := by decide +kernel
theorem jF_163_21 : j_F 163 21 = some (.if_icmp .ge 23, 3, 44, 0, .null, .int) := by decide +kernel
theorem jF_163_24 : j_F 163 24 = some (.aload_n 0, 1, 0, 0, .null, .int) := by decide +kernel
theorem jF_163_25 : j_F 163 25 = some (.invokevirtual 244, 3, 161, 1, .null, .int) := by decide +kernel
theorem jF_163_28 : j_F 163 28 = some (.ifCond .ne 5, 3, 33, 0, .null, .int) := by decide +kernel
theorem jF_163_31 : j_F 163 31 = some (.iload_n 2, 1, 0, 0, .null, .int) := by decide +kernel
theorem jF_163_32 : j_F 163 32 = some (.ireturn, 1, 0, 0, .null, .int) := by decide +kernel
theorem jF_163_33 : j_F 163 33 = some (.aload_n 0, 1, 0, 0, .null, .int) := by decide +kernel
theorem jF_163_34 : j_F 163 34 = some (.invokevirtual 145, 3, 87, 1, .null, .int) := by decide +kernel
theorem jF_163_37 : j_F 163 37 = some (.pop, 1, 0, 0, .null, .int) := by decide +kernel
theorem jF_163_38 : j_F 163 38 = some (.iinc 2 1, 3, 0, 0, .null, .int) := by decide +kernel
theorem jF_163_41 : j_F 163 41 = some (.goto (-22), 3, 19, 0, .null, .int) := by decide +kernel
theorem jF_163_44 : j_F 163 44 = some (.iload_n 1, 1, 0, 0, .null, .int) := by decide +kernel
theorem jF_163_45 : j_F 163 45 = some (.ireturn, 1, 0, 0, .null, .int) := by decide +kernel
theorem jF_164_0 : j_F 164 0 = some (.aload_n 0, 1, 0, 0, .null, .int) := by decide +kernel
theorem jF_164_1 : j_F 164 1 = some (.getfield 75, 3, 11, 11, .null, (.object "HundredWords$Shorts")) := by decide +kernel
theorem jF_164_4 : j_F 164 4 = some (.aload_n 0, 1, 0, 0, .null, .int) := by decide +kernel
theorem jF_164_5 : j_F 164 5 = some (.getfield 42, 3, 11, 4, .null, (.object "HundredWords$Tongue")) := by decide +kernel
theorem jF_164_8 : j_F 164 8 = some (.iload_n 1, 1, 0, 0, .null, .int) := by decide +kernel
theorem jF_164_9 : j_F 164 9 = some (.invokevirtual 248, 3, 165, 3, .null, .int) := by decide +kernel
theorem jF_164_12 : j_F 164 12 = some (.ireturn, 1, 0, 0, .null, .int) := by decide +kernel
theorem jF_166_0 : j_F 166 0 = some (.aload_n 0, 1, 0, 0, .null, .int) := by decide +kernel
theorem jF_166_1 : j_F 166 1 = some (.getfield 42, 3, 11, 4, .null, (.object "HundredWords$Tongue")) := by decide +kernel
theorem jF_166_4 : j_F 166 4 = some (.getfield 252, 3, 8, 8, .null, (.object "HundredWords$Told")) := by decide +kernel
theorem jF_166_7 : j_F 166 7 = some (.aload_n 0, 1, 0, 0, .null, .int) := by decide +kernel
theorem jF_166_8 : j_F 166 8 = some (.getfield 52, 3, 11, 6, .null, (.object "HundredWords$Row")) := by decide +kernel
theorem jF_166_11 : j_F 166 11 = some (.getfield 138, 3, 4, 7, .null, .long) := by decide +kernel
theorem jF_166_14 : j_F 166 14 = some (.invokevirtual 256, 3, 167, 2, .null, .int) := by decide +kernel
theorem jF_166_17 : j_F 166 17 = some (.ireturn, 1, 0, 0, .null, .int) := by decide +kernel
theorem jF_168_0 : j_F 168 0 = some (.iload_n 1, 1, 0, 0, .null, .int) := by decide +kernel
theorem jF_168_1 : j_F 168 1 = some (.ifCond .ge 11, 3, 12, 0, .null, .int) := by decide +kernel
theorem jF_168_4 : j_F 168 4 = some (.aload_n 0, 1, 0, 0, .null, .int) := by decide +kernel
theorem jF_168_5 : j_F 168 5 = some (.iconst 4, 1, 0, 0, .null, .int) := by decide +kernel
theorem jF_168_6 : j_F 168 6 = some (.invokevirtual 105, 3, 25, 2, .null, .int) := by decide +kernel
theorem jF_168_9 : j_F 168 9 = some (.pop, 1, 0, 0, .null, .int) := by decide +kernel
theorem jF_168_10 : j_F 168 10 = some (.iconst 0, 1, 0, 0, .null, .int) := by decide +kernel
theorem jF_168_11 : j_F 168 11 = some (.ireturn, 1, 0, 0, .null, .boolean) := by decide +kernel
theorem jF_168_12 : j_F 168 12 = some (.aload_n 0, 1, 0, 0, .null, .int) := by decide +kernel
theorem jF_168_13 : j_F 168 13 = some (.iload_n 1, 1, 0, 0, .null, .int) := by decide +kernel
theorem jF_168_14 : j_F 168 14 = some (.i2l, 1, 0, 0, .null, .int) := by decide +kernel
theorem jF_168_15 : j_F 168 15 = some (.putfield 97, 3, 11, 15, .null, .long) := by decide +kernel
theorem jF_168_18 : j_F 168 18 = some (.iconst 1, 1, 0, 0, .null, .int) := by decide +kernel
theorem jF_168_19 : j_F 168 19 = some (.ireturn, 1, 0, 0, .null, .boolean) := by decide +kernel
theorem jF_169_0 : j_F 169 0 = some (.aload_n 0, 1, 0, 0, .null, .int) := by decide +kernel
theorem jF_169_1 : j_F 169 1 = some (.getfield 52, 3, 11, 6, .null, (.object "HundredWords$Row")) := by decide +kernel
theorem jF_169_4 : j_F 169 4 = some (.getfield 165, 3, 4, 1, .null, .int) := by decide +kernel
theorem jF_169_7 : j_F 169 7 = some (.ifCond .ne 5, 3, 12, 0, .null, .int) := by decide +kernel
theorem jF_169_10 : j_F 169 10 = some (.iconst (-1), 1, 0, 0, .null, .int) := by decide +kernel
theorem jF_169_11 : j_F 169 11 = some (.ireturn, 1, 0, 0, .null, .int) := by decide +kernel
theorem jF_169_12 : j_F 169 12 = some (.aload_n 0, 1, 0, 0, .null, .int) := by decide +kernel
theorem jF_169_13 : j_F 169 13 = some (.aload_n 0, 1, 0, 0, .null, .int) := by decide +kernel
theorem jF_169_14 : j_F 169 14 = some (.getfield 52, 3, 11, 6, .null, (.object "HundredWords$Row")) := by decide +kernel
theorem jF_169_17 : j_F 169 17 = some (.getfield 165, 3, 4, 1, .null, .int) := by decide +kernel
theorem jF_169_20 : j_F 169 20 = some (.invokevirtual 261, 3, 170, 2, .null, .int) := by decide +kernel
theorem jF_169_23 : j_F 169 23 = some (.istore_n 1, 1, 0, 0, .null, .int) := by decide +kernel
theorem jF_169_24 : j_F 169 24 = some (.aload_n 0, 1, 0, 0, .null, .int) := by decide +kernel
theorem jF_169_25 : j_F 169 25 = some (.iload_n 1, 1, 0, 0, .null, .int) := by decide +kernel
theorem jF_169_26 : j_F 169 26 = some (.bipush 47, 2, 0, 0, .null, .int) := by decide +kernel
theorem jF_169_28 : j_F 169 28 = some (.imul, 1, 0, 0, .null, .int) := by decide +kernel
theorem jF_169_29 : j_F 169 29 = some (.invokevirtual 264, 3, 117, 2, .null, .int) := by decide +kernel
theorem jF_169_32 : j_F 169 32 = some (.ifCond .ne 5, 3, 37, 0, .null, .int) := by decide +kernel
theorem jF_169_35 : j_F 169 35 = some (.iconst (-1), 1, 0, 0, .null, .int) := by decide +kernel
theorem jF_169_36 : j_F 169 36 = some (.ireturn, 1, 0, 0, .null, .int) := by decide +kernel
theorem jF_169_37 : j_F 169 37 = some (.aload_n 0, 1, 0, 0, .null, .int) := by decide +kernel
theorem jF_169_38 : j_F 169 38 = some (.invokevirtual 145, 3, 87, 1, .null, .int) := by decide +kernel
theorem jF_169_41 : j_F 169 41 = some (.pop, 1, 0, 0, .null, .int) := by decide +kernel
theorem jF_169_42 : j_F 169 42 = some (.iload_n 1, 1, 0, 0, .null, .int) := by decide +kernel
theorem jF_169_43 : j_F 169 43 = some (.ireturn, 1, 0, 0, .null, .int) := by decide +kernel
theorem jF_170_0 : j_F 170 0 = some (.aload_n 0, 1, 0, 0, .null, .int) := by decide +kernel
theorem jF_170_1 : j_F 170 1 = some (.ldc2_w 293, 3, 0, 0, (.long (1103515245)), .int) := by decide +kernel
theorem jF_170_4 : j_F 170 4 = some (.aload_n 0, 1, 0, 0, .null, .int) := by decide +kernel
theorem jF_170_5 : j_F 170 5 = some (.getfield 97, 3, 11, 15, .null, .long) := by decide +kernel
theorem jF_170_8 : j_F 170 8 = some (.lmul, 1, 0, 0, .null, .int) := by decide +kernel
theorem jF_170_9 : j_F 170 9 = some (.ldc2_w 295, 3, 0, 0, (.long (12345)), .int) := by decide +kernel
theorem jF_170_12 : j_F 170 12 = some (.ladd, 1, 0, 0, .null, .int) := by decide +kernel
theorem jF_170_13 : j_F 170 13 = some (.ldc2_w 297, 3, 0, 0, (.long (2147483647)), .int) := by decide +kernel
theorem jF_170_16 : j_F 170 16 = some (.land, 1, 0, 0, .null, .int) := by decide +kernel
theorem jF_170_17 : j_F 170 17 = some (.putfield 97, 3, 11, 15, .null, .long) := by decide +kernel
theorem jF_170_20 : j_F 170 20 = some (.iload_n 1, 1, 0, 0, .null, .int) := by decide +kernel
theorem jF_170_21 : j_F 170 21 = some (.ifCond .le 18, 3, 39, 0, .null, .int) := by decide +kernel
theorem jF_170_24 : j_F 170 24 = some (.aload_n 0, 1, 0, 0, .null, .int) := by decide +kernel
theorem jF_170_25 : j_F 170 25 = some (.getfield 97, 3, 11, 15, .null, .long) := by decide +kernel
theorem jF_170_28 : j_F 170 28 = some (.ldc2_w 299, 3, 0, 0, (.long (64)), .int) := by decide +kernel
theorem jF_170_31 : j_F 170 31 = some (.ldiv, 1, 0, 0, .null, .int) := by decide +kernel
theorem jF_170_32 : j_F 170 32 = some (.iload_n 1, 1, 0, 0, .null, .int) := by decide +kernel
theorem jF_170_33 : j_F 170 33 = some (.i2l, 1, 0, 0, .null, .int) := by decide +kernel
theorem jF_170_34 : j_F 170 34 = some (.lrem, 1, 0, 0, .null, .int) := by decide +kernel
theorem jF_170_35 : j_F 170 35 = some (.l2i, 1, 0, 0, .null, .int) := by decide +kernel
theorem jF_170_36 : j_F 170 36 = some (.goto 4, 3, 40, 0, .null, .int) := by decide +kernel
theorem jF_170_40 : j_F 170 40 = some (.ireturn, 1, 0, 0, .null, .int) := by decide +kernel
theorem jF_171_0 : j_F 171 0 = some (.aload_n 0, 1, 0, 0, .null, .int) := by decide +kernel
theorem jF_171_1 : j_F 171 1 = some (.getfield 35, 3, 11, 3, .null, (.object "HundredWords$Question")) := by decide +kernel
theorem jF_171_4 : j_F 171 4 = some (.invokevirtual 267, 3, 172, 1, .null, .int) := by decide +kernel
theorem jF_171_7 : j_F 171 7 = some (.istore_n 1, 1, 0, 0, .null, .int) := by decide +kernel
theorem jF_171_8 : j_F 171 8 = some (.aload_n 0, 1, 0, 0, .null, .int) := by decide +kernel
theorem jF_171_9 : j_F 171 9 = some (.getfield 10, 3, 11, 0, .null, (.object "HundredWords$Tape")) := by decide +kernel
theorem jF_171_12 : j_F 171 12 = some (.iconst 0, 1, 0, 0, .null, .int) := by decide +kernel
theorem jF_171_13 : j_F 171 13 = some (.putfield 101, 3, 6, 1, .null, .int) := by decide +kernel
theorem jF_171_16 : j_F 171 16 = some (.iload_n 1, 1, 0, 0, .null, .int) := by decide +kernel
theorem jF_171_17 : j_F 171 17 = some (.ifCond .eq 25, 3, 42, 0, .null, .int) := by decide +kernel
theorem jF_171_20 : j_F 171 20 = some (.aload_n 0, 1, 0, 0, .null, .int) := by decide +kernel
theorem jF_171_21 : j_F 171 21 = some (.getfield 35, 3, 11, 3, .null, (.object "HundredWords$Question")) := by decide +kernel
theorem jF_171_24 : j_F 171 24 = some (.aload_n 0, 1, 0, 0, .null, .int) := by decide +kernel
theorem jF_171_25 : j_F 171 25 = some (.getfield 42, 3, 11, 4, .null, (.object "HundredWords$Tongue")) := by decide +kernel
theorem jF_171_28 : j_F 171 28 = some (.aload_n 0, 1, 0, 0, .null, .int) := by decide +kernel
theorem jF_171_29 : j_F 171 29 = some (.getfield 52, 3, 11, 6, .null, (.object "HundredWords$Row")) := by decide +kernel
theorem jF_171_32 : j_F 171 32 = some (.aload_n 0, 1, 0, 0, .null, .int) := by decide +kernel
theorem jF_171_33 : j_F 171 33 = some (.getfield 56, 3, 11, 7, .null, (.object "HundredWords$Row")) := by decide +kernel
theorem jF_171_36 : j_F 171 36 = some (.invokevirtual 269, 3, 188, 4, .null, .int) := by decide +kernel
theorem jF_171_39 : j_F 171 39 = some (.goto 6, 3, 45, 0, .null, .int) := by decide +kernel
theorem jF_171_42 : j_F 171 42 = some (.ldc2_w 273, 3, 0, 0, (.long (-1000000000000000)), .int) := by decide +kernel
theorem jF_171_45 : j_F 171 45 = some (.lreturn, 1, 0, 0, .null, .int) := by decide +kernel
theorem jF_200_0 : j_F 200 0 = some (.aload_n 0, 1, 0, 0, .null, .int) := by decide +kernel
theorem jF_200_1 : j_F 200 1 = some (.getfield 89, 3, 11, 13, .null, (.object "HundredWords$Image")) := by decide +kernel
theorem jF_200_4 : j_F 200 4 = some (.aload_n 0, 1, 0, 0, .null, .int) := by decide +kernel
theorem jF_200_5 : j_F 200 5 = some (.getfield 52, 3, 11, 6, .null, (.object "HundredWords$Row")) := by decide +kernel
theorem jF_200_8 : j_F 200 8 = some (.aload_n 0, 1, 0, 0, .null, .int) := by decide +kernel
theorem jF_200_9 : j_F 200 9 = some (.getfield 56, 3, 11, 7, .null, (.object "HundredWords$Row")) := by decide +kernel
theorem jF_200_12 : j_F 200 12 = some (.invokevirtual 275, 3, 201, 3, .null, .int) := by decide +kernel
theorem jF_200_15 : j_F 200 15 = some (.aload_n 0, 1, 0, 0, .null, .int) := by decide +kernel
theorem jF_200_16 : j_F 200 16 = some (.getfield 89, 3, 11, 13, .null, (.object "HundredWords$Image")) := by decide +kernel
theorem jF_200_19 : j_F 200 19 = some (.getfield 279, 3, 1, 1, .null, .int) := by decide +kernel
theorem jF_200_22 : j_F 200 22 = some (.ireturn, 1, 0, 0, .null, .int) := by decide +kernel
theorem jF_201_0 : j_F 201 0 = some (.aload_n 0, 1, 0, 0, .null, .int) := by decide +kernel
theorem jF_201_1 : j_F 201 1 = some (.iconst 0, 1, 0, 0, .null, .int) := by decide +kernel
theorem jF_201_2 : j_F 201 2 = some (.putfield 15, 3, 1, 1, .null, .int) := by decide +kernel
theorem jF_201_5 : j_F 201 5 = some (.aload_n 0, 1, 0, 0, .null, .int) := by decide +kernel
theorem jF_201_6 : j_F 201 6 = some (.aload_n 1, 1, 0, 0, .null, .int) := by decide +kernel
theorem jF_201_7 : j_F 201 7 = some (.invokevirtual 19, 3, 202, 2, .null, .int) := by decide +kernel
theorem jF_201_10 : j_F 201 10 = some (.aload_n 0, 1, 0, 0, .null, .int) := by decide +kernel
theorem jF_201_11 : j_F 201 11 = some (.aload_n 2, 1, 0, 0, .null, .int) := by decide +kernel
theorem jF_201_12 : j_F 201 12 = some (.invokevirtual 19, 3, 202, 2, .null, .int) := by decide +kernel
theorem jF_201_15 : j_F 201 15 = some (.aload_n 0, 1, 0, 0, .null, .int) := by decide +kernel
theorem jF_201_16 : j_F 201 16 = some (.aload_n 0, 1, 0, 0, .null, .int) := by decide +kernel
theorem jF_201_17 : j_F 201 17 = some (.getfield 9, 3, 1, 0, .null, (.array .int)) := by decide +kernel
theorem jF_201_20 : j_F 201 20 = some (.aload_n 0, 1, 0, 0, .null, .int) := by decide +kernel
theorem jF_201_21 : j_F 201 21 = some (.getfield 15, 3, 1, 1, .null, .int) := by decide +kernel
theorem jF_201_24 : j_F 201 24 = some (.invokestatic 23, 3, 204, 2, .null, .int) := by decide +kernel
theorem jF_201_27 : j_F 201 27 = some (.invokevirtual 27, 3, 203, 2, .null, .int) := by decide +kernel
theorem jF_201_30 : j_F 201 30 = some (.return_, 1, 0, 0, .null, .int) := by decide +kernel
theorem jF_202_0 : j_F 202 0 = some (.aload_n 0, 1, 0, 0, .null, .int) := by decide +kernel
theorem jF_202_1 : j_F 202 1 = some (.aload_n 1, 1, 0, 0, .null, .int) := by decide +kernel
theorem jF_202_2 : j_F 202 2 = some (.getfield 31, 3, 4, 1, .null, .int) := by decide +kernel
theorem jF_202_5 : j_F 202 5 = some (.invokevirtual 27, 3, 203, 2, .null, .int) := by decide +kernel
theorem jF_202_8 : j_F 202 8 = some (.iconst 0, 1, 0, 0, .null, .int) := by decide +kernel
theorem jF_202_9 : j_F 202 9 = some (.istore_n 2, 1, 0, 0, .null, .int) := by decide +kernel
theorem jF_202_10 : j_F 202 10 = some (.iload_n 2, 1, 0, 0, .null, .int) := by decide +kernel
theorem jF_202_11 : j_F 202 11 = some (.aload_n 1, 1, 0, 0, .null, .int) := by decide +kernel
theorem jF_202_12 : j_F 202 12 = some (.getfield 31, 3, 4, 1, .null, .int) := by decide +kernel
theorem jF_202_15 : j_F 202 15 = some (.if_icmp .ge 19, 3, 34, 0, .null, .int) := by decide +kernel
theorem jF_202_18 : j_F 202 18 = some (.aload_n 0, 1, 0, 0, .null, .int) := by decide +kernel
theorem jF_202_19 : j_F 202 19 = some (.aload_n 1, 1, 0, 0, .null, .int) := by decide +kernel
theorem jF_202_20 : j_F 202 20 = some (.getfield 36, 3, 4, 0, .null, (.array .int)) := by decide +kernel
theorem jF_202_23 : j_F 202 23 = some (.iload_n 2, 1, 0, 0, .null, .int) := by decide +kernel
theorem jF_202_24 : j_F 202 24 = some (.iaload, 1, 0, 0, .null, .int) := by decide +kernel
theorem jF_202_25 : j_F 202 25 = some (.invokevirtual 27, 3, 203, 2, .null, .int) := by decide +kernel
theorem jF_202_28 : j_F 202 28 = some (.iinc 2 1, 3, 0, 0, .null, .int) := by decide +kernel
theorem jF_202_31 : j_F 202 31 = some (.goto (-21), 3, 10, 0, .null, .int) := by decide +kernel
theorem jF_202_34 : j_F 202 34 = some (.return_, 1, 0, 0, .null, .int) := by decide +kernel
theorem jF_203_0 : j_F 203 0 = some (.aload_n 0, 1, 0, 0, .null, .int) := by decide +kernel
theorem jF_203_1 : j_F 203 1 = some (.getfield 15, 3, 1, 1, .null, .int) := by decide +kernel
theorem jF_203_4 : j_F 203 4 = some (.aload_n 0, 1, 0, 0, .null, .int) := by decide +kernel
theorem jF_203_5 : j_F 203 5 = some (.getfield 9, 3, 1, 0, .null, (.array .int)) := by decide +kernel
theorem jF_203_8 : j_F 203 8 = some (.arraylength, 1, 0, 0, .null, .int) := by decide +kernel
theorem jF_203_9 : j_F 203 9 = some (.if_icmp .ge 23, 3, 32, 0, .null, .int) := by decide +kernel
theorem jF_203_12 : j_F 203 12 = some (.aload_n 0, 1, 0, 0, .null, .int) := by decide +kernel
theorem jF_203_13 : j_F 203 13 = some (.getfield 9, 3, 1, 0, .null, (.array .int)) := by decide +kernel
theorem jF_203_16 : j_F 203 16 = some (.aload_n 0, 1, 0, 0, .null, .int) := by decide +kernel
theorem jF_203_17 : j_F 203 17 = some (.getfield 15, 3, 1, 1, .null, .int) := by decide +kernel
theorem jF_203_20 : j_F 203 20 = some (.iload_n 1, 1, 0, 0, .null, .int) := by decide +kernel
theorem jF_203_21 : j_F 203 21 = some (.iastore, 1, 0, 0, .null, .int) := by decide +kernel
theorem jF_203_22 : j_F 203 22 = some (.aload_n 0, 1, 0, 0, .null, .int) := by decide +kernel
theorem jF_203_23 : j_F 203 23 = some (.dup, 1, 0, 0, .null, .int) := by decide +kernel
theorem jF_203_24 : j_F 203 24 = some (.getfield 15, 3, 1, 1, .null, .int) := by decide +kernel
theorem jF_203_27 : j_F 203 27 = some (.iconst 1, 1, 0, 0, .null, .int) := by decide +kernel
theorem jF_203_28 : j_F 203 28 = some (.iadd, 1, 0, 0, .null, .int) := by decide +kernel
theorem jF_203_29 : j_F 203 29 = some (.putfield 15, 3, 1, 1, .null, .int) := by decide +kernel
theorem jF_203_32 : j_F 203 32 = some (.return_, 1, 0, 0, .null, .int) := by decide +kernel
theorem jF_204_0 : j_F 204 0 = some (.bipush 101, 2, 0, 0, .null, .int) := by decide +kernel
theorem jF_204_2 : j_F 204 2 = some (.istore_n 2, 1, 0, 0, .null, .int) := by decide +kernel
theorem jF_204_3 : j_F 204 3 = some (.iconst 0, 1, 0, 0, .null, .int) := by decide +kernel
theorem jF_204_4 : j_F 204 4 = some (.istore_n 3, 1, 0, 0, .null, .int) := by decide +kernel
theorem jF_204_5 : j_F 204 5 = some (.iload_n 3, 1, 0, 0, .null, .int) := by decide +kernel
theorem jF_204_6 : j_F 204 6 = some (.iload_n 1, 1, 0, 0, .null, .int) := by decide +kernel
theorem jF_204_7 : j_F 204 7 = some (.if_icmp .ge 27, 3, 34, 0, .null, .int) := by decide +kernel
theorem jF_204_10 : j_F 204 10 = some (.iload_n 3, 1, 0, 0, .null, .int) := by decide +kernel
theorem jF_204_11 : j_F 204 11 = some (.aload_n 0, 1, 0, 0, .null, .int) := by decide +kernel
theorem jF_204_12 : j_F 204 12 = some (.arraylength, 1, 0, 0, .null, .int) := by decide +kernel
theorem jF_204_13 : j_F 204 13 = some (.if_icmp .ge 21, 3, 34, 0, .null, .int) := by decide +kernel
theorem jF_204_16 : j_F 204 16 = some (.iconst 5, 1, 0, 0, .null, .int) := by decide +kernel
theorem jF_204_17 : j_F 204 17 = some (.iload_n 2, 1, 0, 0, .null, .int) := by decide +kernel
theorem jF_204_18 : j_F 204 18 = some (.imul, 1, 0, 0, .null, .int) := by decide +kernel
theorem jF_204_19 : j_F 204 19 = some (.aload_n 0, 1, 0, 0, .null, .int) := by decide +kernel
theorem jF_204_20 : j_F 204 20 = some (.iload_n 3, 1, 0, 0, .null, .int) := by decide +kernel
theorem jF_204_21 : j_F 204 21 = some (.iaload, 1, 0, 0, .null, .int) := by decide +kernel
theorem jF_204_22 : j_F 204 22 = some (.iadd, 1, 0, 0, .null, .int) := by decide +kernel
theorem jF_204_23 : j_F 204 23 = some (.sipush 239, 3, 0, 0, .null, .int) := by decide +kernel
theorem jF_204_26 : j_F 204 26 = some (.irem, 1, 0, 0, .null, .int) := by decide +kernel
theorem jF_204_27 : j_F 204 27 = some (.istore_n 2, 1, 0, 0, .null, .int) := by decide +kernel
theorem jF_204_28 : j_F 204 28 = some (.iinc 3 1, 3, 0, 0, .null, .int) := by decide +kernel
theorem jF_204_31 : j_F 204 31 = some (.goto (-26), 3, 5, 0, .null, .int) := by decide +kernel
theorem jF_204_34 : j_F 204 34 = some (.iload_n 2, 1, 0, 0, .null, .int) := by decide +kernel
theorem jF_204_35 : j_F 204 35 = some (.ireturn, 1, 0, 0, .null, .int) := by decide +kernel
theorem jF_205_0 : j_F 205 0 = some (.iload_n 1, 1, 0, 0, .null, .int) := by decide +kernel
theorem jF_205_1 : j_F 205 1 = some (.ifCond .lt 26, 3, 27, 0, .null, .int) := by decide +kernel
theorem jF_205_4 : j_F 205 4 = some (.iload_n 1, 1, 0, 0, .null, .int) := by decide +kernel
theorem jF_205_5 : j_F 205 5 = some (.aload_n 0, 1, 0, 0, .null, .int) := by decide +kernel
theorem jF_205_6 : j_F 205 6 = some (.getfield 89, 3, 11, 13, .null, (.object "HundredWords$Image")) := by decide +kernel
theorem jF_205_9 : j_F 205 9 = some (.getfield 279, 3, 1, 1, .null, .int) := by decide +kernel
theorem jF_205_12 : j_F 205 12 = some (.if_icmp .ge 15, 3, 27, 0, .null, .int) := by decide +kernel
theorem jF_205_15 : j_F 205 15 = some (.aload_n 0, 1, 0, 0, .null, .int) := by decide +kernel
theorem jF_205_16 : j_F 205 16 = some (.getfield 89, 3, 11, 13, .null, (.object "HundredWords$Image")) := by decide +kernel
theorem jF_205_19 : j_F 205 19 = some (.getfield 280, 3, 1, 0, .null, (.array .int)) := by decide +kernel
theorem jF_205_22 : j_F 205 22 = some (.iload_n 1, 1, 0, 0, .null, .int) := by decide +kernel
theorem jF_205_23 : j_F 205 23 = some (.iaload, 1, 0, 0, .null, .int) := by decide +kernel
theorem jF_205_24 : j_F 205 24 = some (.goto 4, 3, 28, 0, .null, .int) := by decide +kernel
theorem jF_205_27 : j_F 205 27 = some (.iconst (-1), 1, 0, 0, .null, .int) := by decide +kernel
theorem jF_205_28 : j_F 205 28 = some (.ireturn, 1, 0, 0, .null, .int) := by decide +kernel
theorem jF_206_0 : j_F 206 0 = some (.aload_n 0, 1, 0, 0, .null, .int) := by decide +kernel
theorem jF_206_1 : j_F 206 1 = some (.invokevirtual 283, 3, 207, 1, .null, .int) := by decide +kernel
theorem jF_206_4 : j_F 206 4 = some (.istore_n 1, 1, 0, 0, .null, .int) := by decide +kernel
theorem jF_206_5 : j_F 206 5 = some (.aload_n 0, 1, 0, 0, .null, .int) := by decide +kernel
theorem jF_206_6 : j_F 206 6 = some (.getfield 10, 3, 11, 0, .null, (.object "HundredWords$Tape")) := by decide +kernel
theorem jF_206_9 : j_F 206 9 = some (.iconst 0, 1, 0, 0, .null, .int) := by decide +kernel
theorem jF_206_10 : j_F 206 10 = some (.putfield 101, 3, 6, 1, .null, .int) := by decide +kernel
theorem jF_206_13 : j_F 206 13 = some (.iload_n 1, 1, 0, 0, .null, .int) := by decide +kernel
theorem jF_206_14 : j_F 206 14 = some (.ifCond .ne 11, 3, 25, 0, .null, .int) := by decide +kernel
theorem jF_206_17 : j_F 206 17 = some (.aload_n 0, 1, 0, 0, .null, .int) := by decide +kernel
theorem jF_206_18 : j_F 206 18 = some (.iconst 5, 1, 0, 0, .null, .int) := by decide +kernel
theorem jF_206_19 : j_F 206 19 = some (.invokevirtual 105, 3, 25, 2, .null, .int) := by decide +kernel
theorem jF_206_22 : j_F 206 22 = some (.pop, 1, 0, 0, .null, .int) := by decide +kernel
theorem jF_206_23 : j_F 206 23 = some (.iconst 0, 1, 0, 0, .null, .int) := by decide +kernel
theorem jF_206_24 : j_F 206 24 = some (.ireturn, 1, 0, 0, .null, .boolean) := by decide +kernel
theorem jF_206_25 : j_F 206 25 = some (.aload_n 0, 1, 0, 0, .null, .int) := by decide +kernel
theorem jF_206_26 : j_F 206 26 = some (.getfield 52, 3, 11, 6, .null, (.object "HundredWords$Row")) := by decide +kernel
theorem jF_206_29 : j_F 206 29 = some (.aload_n 0, 1, 0, 0, .null, .int) := by decide +kernel
theorem jF_206_30 : j_F 206 30 = some (.getfield 59, 3, 11, 8, .null, (.object "HundredWords$Row")) := by decide +kernel
theorem jF_206_33 : j_F 206 33 = some (.invokevirtual 131, 3, 84, 2, .null, .int) := by decide +kernel
theorem jF_206_36 : j_F 206 36 = some (.aload_n 0, 1, 0, 0, .null, .int) := by decide +kernel
theorem jF_206_37 : j_F 206 37 = some (.getfield 52, 3, 11, 6, .null, (.object "HundredWords$Row")) := by decide +kernel
theorem jF_206_40 : j_F 206 40 = some (.aload_n 0, 1, 0, 0, .null, .int) := by decide +kernel
theorem jF_206_41 : j_F 206 41 = some (.getfield 42, 3, 11, 4, .null, (.object "HundredWords$Tongue")) := by decide +kernel
theorem jF_206_44 : j_F 206 44 = some (.invokevirtual 127, 3, 82, 2, .null, .int) := by decide +kernel
theorem jF_206_47 : j_F 206 47 = some (.aload_n 0, 1, 0, 0, .null, .int) := by decide +kernel
theorem jF_206_48 : j_F 206 48 = some (.getfield 56, 3, 11, 7, .null, (.object "HundredWords$Row")) := by decide +kernel
theorem jF_206_51 : j_F 206 51 = some (.aload_n 0, 1, 0, 0, .null, .int) := by decide +kernel
theorem jF_206_52 : j_F 206 52 = some (.getfield 62, 3, 11, 9, .null, (.object "HundredWords$Row")) := by decide +kernel
theorem jF_206_55 : j_F 206 55 = some (.invokevirtual 131, 3, 84, 2, .null, .int) := by decide +kernel
theorem jF_206_58 : j_F 206 58 = some (.aload_n 0, 1, 0, 0, .null, .int) := by decide +kernel
theorem jF_206_59 : j_F 206 59 = some (.getfield 56, 3, 11, 7, .null, (.object "HundredWords$Row")) := by decide +kernel
theorem jF_206_62 : j_F 206 62 = some (.aload_n 0, 1, 0, 0, .null, .int) := by decide +kernel
theorem jF_206_63 : j_F 206 63 = some (.getfield 42, 3, 11, 4, .null, (.object "HundredWords$Tongue")) := by decide +kernel
theorem jF_206_66 : j_F 206 66 = some (.invokevirtual 127, 3, 82, 2, .null, .int) := by decide +kernel
theorem jF_206_69 : j_F 206 69 = some (.aload_n 0, 1, 0, 0, .null, .int) := by decide +kernel
theorem jF_206_70 : j_F 206 70 = some (.getfield 68, 3, 11, 10, .null, (.object "HundredWords$Acts")) := by decide +kernel
theorem jF_206_73 : j_F 206 73 = some (.invokevirtual 120, 3, 72, 1, .null, .int) := by decide +kernel
theorem jF_206_76 : j_F 206 76 = some (.iconst 1, 1, 0, 0, .null, .int) := by decide +kernel
theorem jF_206_77 : j_F 206 77 = some (.ireturn, 1, 0, 0, .null, .boolean) := by decide +kernel
theorem jF_207_0 : j_F 207 0 = some (.aload_n 0, 1, 0, 0, .null, .int) := by decide +kernel
theorem jF_207_1 : j_F 207 1 = some (.getfield 59, 3, 11, 8, .null, (.object "HundredWords$Row")) := by decide +kernel
theorem jF_207_4 : j_F 207 4 = some (.aload_n 0, 1, 0, 0, .null, .int) := by decide +kernel
theorem jF_207_5 : j_F 207 5 = some (.getfield 10, 3, 11, 0, .null, (.object "HundredWords$Tape")) := by decide +kernel
theorem jF_207_8 : j_F 207 8 = some (.iconst 0, 1, 0, 0, .null, .int) := by decide +kernel
theorem jF_207_9 : j_F 207 9 = some (.invokevirtual 301, 3, 208, 3, .null, .int) := by decide +kernel
theorem jF_207_12 : j_F 207 12 = some (.istore_n 1, 1, 0, 0, .null, .int) := by decide +kernel
theorem jF_207_13 : j_F 207 13 = some (.iload_n 1, 1, 0, 0, .null, .int) := by decide +kernel
theorem jF_207_14 : j_F 207 14 = some (.iconst (-1), 1, 0, 0, .null, .int) := by decide +kernel
theorem jF_207_15 : j_F 207 15 = some (.if_icmp .ne 7, 3, 22, 0, .null, .int) := by decide +kernel
theorem jF_207_18 : j_F 207 18 = some (.iconst (-1), 1, 0, 0, .null, .int) := by decide +kernel
theorem jF_207_19 : j_F 207 19 = some (.goto 15, 3, 34, 0, .null, .int) := by decide +kernel
theorem jF_207_22 : j_F 207 22 = some (.aload_n 0, 1, 0, 0, .null, .int) := by decide +kernel
theorem jF_207_23 : j_F 207 23 = some (.getfield 62, 3, 11, 9, .null, (.object "HundredWords$Row")) := by decide +kernel
theorem jF_207_26 : j_F 207 26 = some (.aload_n 0, 1, 0, 0, .null, .int) := by decide +kernel
theorem jF_207_27 : j_F 207 27 = some (.getfield 10, 3, 11, 0, .null, (.object "HundredWords$Tape")) := by decide +kernel
theorem jF_207_30 : j_F 207 30 = some (.iload_n 1, 1, 0, 0, .null, .int) := by decide +kernel
theorem jF_207_31 : j_F 207 31 = some (.invokevirtual 301, 3, 208, 3, .null, .int) := by decide +kernel
theorem jF_207_34 : j_F 207 34 = some (.istore_n 2, 1, 0, 0, .null, .int) := by decide +kernel
theorem jF_207_35 : j_F 207 35 = some (.iload_n 2, 1, 0, 0, .null, .int) := by decide +kernel
theorem jF_207_36 : j_F 207 36 = some (.iconst (-1), 1, 0, 0, .null, .int) := by decide +kernel
theorem jF_207_37 : j_F 207 37 = some (.if_icmp .eq 16, 3, 53, 0, .null, .int) := by decide +kernel
theorem jF_207_40 : j_F 207 40 = some (.iload_n 2, 1, 0, 0, .null, .int) := by decide +kernel
theorem jF_207_41 : j_F 207 41 = some (.aload_n 0, 1, 0, 0, .null, .int) := by decide +kernel
theorem jF_207_42 : j_F 207 42 = some (.getfield 10, 3, 11, 0, .null, (.object "HundredWords$Tape")) := by decide +kernel
theorem jF_207_45 : j_F 207 45 = some (.getfield 101, 3, 6, 1, .null, .int) := by decide +kernel
theorem jF_207_48 : j_F 207 48 = some (.iconst 1, 1, 0, 0, .null, .int) := by decide +kernel
theorem jF_207_49 : j_F 207 49 = some (.isub, 1, 0, 0, .null, .int) := by decide +kernel
theorem jF_207_50 : j_F 207 50 = some (.if_icmp .eq 5, 3, 55, 0, .null, .int) := by decide +kernel
theorem jF_207_53 : j_F 207 53 = some (.iconst 0, 1, 0, 0, .null, .int) := by decide +kernel
theorem jF_207_54 : j_F 207 54 = some (.ireturn, 1, 0, 0, .null, .boolean) := by decide +kernel
theorem jF_207_55 : j_F 207 55 = some (.aload_n 0, 1, 0, 0, .null, .int) := by decide +kernel
theorem jF_207_56 : j_F 207 56 = some (.getfield 10, 3, 11, 0, .null, (.object "HundredWords$Tape")) := by decide +kernel
theorem jF_207_59 : j_F 207 59 = some (.getfield 305, 3, 6, 0, .null, (.array .int)) := by decide +kernel
theorem jF_207_62 : j_F 207 62 = some (.iload_n 2, 1, 0, 0, .null, .int) := by decide +kernel
theorem jF_207_63 : j_F 207 63 = some (.invokestatic 306, 3, 204, 2, .null, .int) := by decide +kernel
theorem jF_207_66 : j_F 207 66 = some (.aload_n 0, 1, 0, 0, .null, .int) := by decide +kernel
theorem jF_207_67 : j_F 207 67 = some (.getfield 10, 3, 11, 0, .null, (.object "HundredWords$Tape")) := by decide +kernel
theorem jF_207_70 : j_F 207 70 = some (.iload_n 2, 1, 0, 0, .null, .int) := by decide +kernel
theorem jF_207_71 : j_F 207 71 = some (.invokevirtual 310, 3, 39, 2, .null, .int) := by decide +kernel
theorem jF_207_74 : j_F 207 74 = some (.if_icmp .ne 35, 3, 109, 0, .null, .int) := by decide +kernel
theorem jF_207_77 : j_F 207 77 = some (.aload_n 0, 1, 0, 0, .null, .int) := by decide +kernel
theorem jF_207_78 : j_F 207 78 = some (.getfield 59, 3, 11, 8, .null, (.object "HundredWords$Row")) := by decide +kernel
theorem jF_207_81 : j_F 207 81 = some (.aload_n 0, 1, 0, 0, .null, .int) := by decide +kernel
theorem jF_207_82 : j_F 207 82 = some (.getfield 42, 3, 11, 4, .null, (.object "HundredWords$Tongue")) := by decide +kernel
theorem jF_207_85 : j_F 207 85 = some (.invokevirtual 313, 3, 209, 2, .null, .int) := by decide +kernel
theorem jF_207_88 : j_F 207 88 = some (.ifCond .eq 21, 3, 109, 0, .null, .int) := by decide +kernel
theorem jF_207_91 : j_F 207 91 = some (.aload_n 0, 1, 0, 0, .null, .int) := by decide +kernel
theorem jF_207_92 : j_F 207 92 = some (.getfield 62, 3, 11, 9, .null, (.object "HundredWords$Row")) := by decide +kernel
theorem jF_207_95 : j_F 207 95 = some (.aload_n 0, 1, 0, 0, .null, .int) := by decide +kernel
theorem jF_207_96 : j_F 207 96 = some (.getfield 42, 3, 11, 4, .null, (.object "HundredWords$Tongue")) := by decide +kernel
theorem jF_207_99 : j_F 207 99 = some (.invokevirtual 313, 3, 209, 2, .null, .int) := by decide +kernel
theorem jF_207_102 : j_F 207 102 = some (.ifCond .eq 7, 3, 109, 0, .null, .int) := by decide +kernel
theorem jF_207_105 : j_F 207 105 = some (.iconst 1, 1, 0, 0, .null, .int) := by decide +kernel
theorem jF_207_106 : j_F 207 106 = some (.goto 4, 3, 110, 0, .null, .int) := by decide +kernel
theorem jF_207_109 : j_F 207 109 = some (.iconst 0, 1, 0, 0, .null, .int) := by decide +kernel
theorem jF_207_110 : j_F 207 110 = some (.ireturn, 1, 0, 0, .null, .boolean) := by decide +kernel
theorem jF_210_0 : j_F 210 0 = some (.iload_n 1, 1, 0, 0, .null, .int) := by decide +kernel
theorem jF_210_1 : j_F 210 1 = some (.ifCond .lt 21, 3, 22, 0, .null, .int) := by decide +kernel
theorem jF_210_4 : j_F 210 4 = some (.iload_n 1, 1, 0, 0, .null, .int) := by decide +kernel
theorem jF_210_5 : j_F 210 5 = some (.aload_n 0, 1, 0, 0, .null, .int) := by decide +kernel
theorem jF_210_6 : j_F 210 6 = some (.getfield 93, 3, 11, 14, .null, (.array .int)) := by decide +kernel
theorem jF_210_9 : j_F 210 9 = some (.arraylength, 1, 0, 0, .null, .int) := by decide +kernel
theorem jF_210_10 : j_F 210 10 = some (.if_icmp .ge 12, 3, 22, 0, .null, .int) := by decide +kernel
theorem jF_210_13 : j_F 210 13 = some (.aload_n 0, 1, 0, 0, .null, .int) := by decide +kernel
theorem jF_210_14 : j_F 210 14 = some (.getfield 93, 3, 11, 14, .null, (.array .int)) := by decide +kernel
theorem jF_210_17 : j_F 210 17 = some (.iload_n 1, 1, 0, 0, .null, .int) := by decide +kernel
theorem jF_210_18 : j_F 210 18 = some (.iaload, 1, 0, 0, .null, .int) := by decide +kernel
theorem jF_210_19 : j_F 210 19 = some (.goto 4, 3, 23, 0, .null, .int) := by decide +kernel
theorem jF_210_22 : j_F 210 22 = some (.iconst (-1), 1, 0, 0, .null, .int) := by decide +kernel
theorem jF_210_23 : j_F 210 23 = some (.ireturn, 1, 0, 0, .null, .int) := by decide +kernel
