/-! CODE. -/
theorem jF_26_0 : j_F 26 0 = some (.bipush 24, 2, 0, 0, .null, .int) := by decide +kernel
theorem jF_26_2 : j_F 26 2 = some (.istore_n 2, 1, 0, 0, .null, .int) := by decide +kernel
theorem jF_26_3 : j_F 26 3 = some (.iload_n 2, 1, 0, 0, .null, .int) := by decide +kernel
theorem jF_26_4 : j_F 26 4 = some (.ifCond .lt 45, 3, 49, 0, .null, .int) := by decide +kernel
theorem jF_26_7 : j_F 26 7 = some (.aload_n 0, 1, 0, 0, .null, .int) := by decide +kernel
theorem jF_26_8 : j_F 26 8 = some (.getfield 19, 3, 6, 1, .null, .int) := by decide +kernel
theorem jF_26_11 : j_F 26 11 = some (.sipush 1600, 3, 0, 0, .null, .int) := by decide +kernel
theorem jF_26_14 : j_F 26 14 = some (.if_icmp .ge 35, 3, 49, 0, .null, .int) := by decide +kernel
theorem jF_26_17 : j_F 26 17 = some (.aload_n 0, 1, 0, 0, .null, .int) := by decide +kernel
theorem jF_26_18 : j_F 26 18 = some (.getfield 11, 3, 6, 0, .null, (.array .int)) := by decide +kernel
theorem jF_26_21 : j_F 26 21 = some (.aload_n 0, 1, 0, 0, .null, .int) := by decide +kernel
theorem jF_26_22 : j_F 26 22 = some (.getfield 19, 3, 6, 1, .null, .int) := by decide +kernel
theorem jF_26_25 : j_F 26 25 = some (.iload_n 1, 1, 0, 0, .null, .int) := by decide +kernel
theorem jF_26_26 : j_F 26 26 = some (.iload_n 2, 1, 0, 0, .null, .int) := by decide +kernel
theorem jF_26_27 : j_F 26 27 = some (.iushr, 1, 0, 0, .null, .int) := by decide +kernel
theorem jF_26_28 : j_F 26 28 = some (.sipush 255, 3, 0, 0, .null, .int) := by decide +kernel
theorem jF_26_31 : j_F 26 31 = some (.iand, 1, 0, 0, .null, .int) := by decide +kernel
theorem jF_26_32 : j_F 26 32 = some (.iastore, 1, 0, 0, .null, .int) := by decide +kernel
theorem jF_26_33 : j_F 26 33 = some (.aload_n 0, 1, 0, 0, .null, .int) := by decide +kernel
theorem jF_26_34 : j_F 26 34 = some (.dup, 1, 0, 0, .null, .int) := by decide +kernel
theorem jF_26_35 : j_F 26 35 = some (.getfield 19, 3, 6, 1, .null, .int) := by decide +kernel
theorem jF_26_38 : j_F 26 38 = some (.iconst 1, 1, 0, 0, .null, .int) := by decide +kernel
theorem jF_26_39 : j_F 26 39 = some (.iadd, 1, 0, 0, .null, .int) := by decide +kernel
theorem jF_26_40 : j_F 26 40 = some (.putfield 19, 3, 6, 1, .null, .int) := by decide +kernel
theorem jF_26_43 : j_F 26 43 = some (.iinc 2 (-8), 3, 0, 0, .null, .int) := by decide +kernel
theorem jF_26_46 : j_F 26 46 = some (.goto (-43), 3, 3, 0, .null, .int) := by decide +kernel
theorem jF_26_49 : j_F 26 49 = some (.return_, 1, 0, 0, .null, .int) := by decide +kernel
theorem jF_34_0 : j_F 34 0 = some (.aload_n 0, 1, 0, 0, .null, .int) := by decide +kernel
theorem jF_34_1 : j_F 34 1 = some (.iconst 0, 1, 0, 0, .null, .int) := by decide +kernel
theorem jF_34_2 : j_F 34 2 = some (.putfield 22, 3, 6, 2, .null, .int) := by decide +kernel
theorem jF_34_5 : j_F 34 5 = some (.aload_n 0, 1, 0, 0, .null, .int) := by decide +kernel
theorem jF_34_6 : j_F 34 6 = some (.iconst 0, 1, 0, 0, .null, .int) := by decide +kernel
theorem jF_34_7 : j_F 34 7 = some (.putfield 25, 3, 6, 3, .null, .int) := by decide +kernel
theorem jF_34_10 : j_F 34 10 = some (.aload_n 0, 1, 0, 0, .null, .int) := by decide +kernel
theorem jF_34_11 : j_F 34 11 = some (.iconst (-1), 1, 0, 0, .null, .int) := by decide +kernel
theorem jF_34_12 : j_F 34 12 = some (.putfield 15, 3, 6, 4, .null, .int) := by decide +kernel
theorem jF_34_15 : j_F 34 15 = some (.return_, 1, 0, 0, .null, .int) := by decide +kernel
theorem jF_35_0 : j_F 35 0 = some (.aload_n 0, 1, 0, 0, .null, .int) := by decide +kernel
theorem jF_35_1 : j_F 35 1 = some (.getfield 22, 3, 6, 2, .null, .int) := by decide +kernel
theorem jF_35_4 : j_F 35 4 = some (.aload_n 0, 1, 0, 0, .null, .int) := by decide +kernel
theorem jF_35_5 : j_F 35 5 = some (.getfield 19, 3, 6, 1, .null, .int) := by decide +kernel
theorem jF_35_8 : j_F 35 8 = some (.if_icmp .ge 44, 3, 52, 0, .null, .int) := by decide +kernel
theorem jF_35_11 : j_F 35 11 = some (.aload_n 0, 1, 0, 0, .null, .int) := by decide +kernel
theorem jF_35_12 : j_F 35 12 = some (.getfield 11, 3, 6, 0, .null, (.array .int)) := by decide +kernel
theorem jF_35_15 : j_F 35 15 = some (.aload_n 0, 1, 0, 0, .null, .int) := by decide +kernel
theorem jF_35_16 : j_F 35 16 = some (.getfield 22, 3, 6, 2, .null, .int) := by decide +kernel
theorem jF_35_19 : j_F 35 19 = some (.iaload, 1, 0, 0, .null, .int) := by decide +kernel
theorem jF_35_20 : j_F 35 20 = some (.bipush 10, 2, 0, 0, .null, .int) := by decide +kernel
theorem jF_35_22 : j_F 35 22 = some (.if_icmp .eq 17, 3, 39, 0, .null, .int) := by decide +kernel
theorem jF_35_25 : j_F 35 25 = some (.aload_n 0, 1, 0, 0, .null, .int) := by decide +kernel
theorem jF_35_26 : j_F 35 26 = some (.getfield 11, 3, 6, 0, .null, (.array .int)) := by decide +kernel
theorem jF_35_29 : j_F 35 29 = some (.aload_n 0, 1, 0, 0, .null, .int) := by decide +kernel
theorem jF_35_30 : j_F 35 30 = some (.getfield 22, 3, 6, 2, .null, .int) := by decide +kernel
theorem jF_35_33 : j_F 35 33 = some (.iaload, 1, 0, 0, .null, .int) := by decide +kernel
theorem jF_35_34 : j_F 35 34 = some (.bipush 32, 2, 0, 0, .null, .int) := by decide +kernel
theorem jF_35_36 : j_F 35 36 = some (.if_icmp .ne 16, 3, 52, 0, .null, .int) := by decide +kernel
theorem jF_35_39 : j_F 35 39 = some (.aload_n 0, 1, 0, 0, .null, .int) := by decide +kernel
theorem jF_35_40 : j_F 35 40 = some (.dup, 1, 0, 0, .null, .int) := by decide +kernel
theorem jF_35_41 : j_F 35 41 = some (.getfield 22, 3, 6, 2, .null, .int) := by decide +kernel
theorem jF_35_44 : j_F 35 44 = some (.iconst 1, 1, 0, 0, .null, .int) := by decide +kernel
theorem jF_35_45 : j_F 35 45 = some (.iadd, 1, 0, 0, .null, .int) := by decide +kernel
theorem jF_35_46 : j_F 35 46 = some (.putfield 22, 3, 6, 2, .null, .int) := by decide +kernel
theorem jF_35_49 : j_F 35 49 = some (.goto (-49), 3, 0, 0, .null, .int) := by decide +kernel
theorem jF_35_52 : j_F 35 52 = some (.aload_n 0, 1, 0, 0, .null, .int) := by decide +kernel
theorem jF_35_53 : j_F 35 53 = some (.getfield 22, 3, 6, 2, .null, .int) := by decide +kernel
theorem jF_35_56 : j_F 35 56 = some (.aload_n 0, 1, 0, 0, .null, .int) := by decide +kernel
theorem jF_35_57 : j_F 35 57 = some (.getfield 19, 3, 6, 1, .null, .int) := by decide +kernel
theorem jF_35_60 : j_F 35 60 = some (.if_icmp .ge 15, 3, 75, 0, .null, .int) := by decide +kernel
theorem jF_35_63 : j_F 35 63 = some (.aload_n 0, 1, 0, 0, .null, .int) := by decide +kernel
theorem jF_35_64 : j_F 35 64 = some (.getfield 11, 3, 6, 0, .null, (.array .int)) := by decide +kernel
theorem jF_35_67 : j_F 35 67 = some (.aload_n 0, 1, 0, 0, .null, .int) := by decide +kernel
theorem jF_35_68 : j_F 35 68 = some (.getfield 22, 3, 6, 2, .null, .int) := by decide +kernel
theorem jF_35_71 : j_F 35 71 = some (.iaload, 1, 0, 0, .null, .int) := by decide +kernel
theorem jF_35_72 : j_F 35 72 = some (.goto 4, 3, 76, 0, .null, .int) := by decide +kernel
theorem jF_35_75 : j_F 35 75 = some (.iconst (-1), 1, 0, 0, .null, .int) := by decide +kernel
theorem jF_35_76 : j_F 35 76 = some (.ireturn, 1, 0, 0, .null, .int) := by decide +kernel
theorem jF_37_0 : j_F 37 0 = some (.aload_n 0, 1, 0, 0, .null, .int) := by decide +kernel
theorem jF_37_1 : j_F 37 1 = some (.invokevirtual 28, 3, 35, 1, .null, .int) := by decide +kernel
theorem jF_37_4 : j_F 37 4 = some (.invokestatic 32, 3, 38, 1, .null, .int) := by decide +kernel
theorem jF_37_7 : j_F 37 7 = some (.ifCond .eq 19, 3, 26, 0, .null, .int) := by decide +kernel
theorem jF_37_10 : j_F 37 10 = some (.aload_n 0, 1, 0, 0, .null, .int) := by decide +kernel
theorem jF_37_11 : j_F 37 11 = some (.aload_n 0, 1, 0, 0, .null, .int) := by decide +kernel
theorem jF_37_12 : j_F 37 12 = some (.getfield 22, 3, 6, 2, .null, .int) := by decide +kernel
theorem jF_37_15 : j_F 37 15 = some (.iconst 1, 1, 0, 0, .null, .int) := by decide +kernel
theorem jF_37_16 : j_F 37 16 = some (.isub, 1, 0, 0, .null, .int) := by decide +kernel
theorem jF_37_17 : j_F 37 17 = some (.invokevirtual 36, 3, 39, 2, .null, .int) := by decide +kernel
theorem jF_37_20 : j_F 37 20 = some (.invokestatic 40, 3, 40, 1, .null, .int) := by decide +kernel
theorem jF_37_23 : j_F 37 23 = some (.ifCond .eq 5, 3, 28, 0, .null, .int) := by decide +kernel
theorem jF_37_26 : j_F 37 26 = some (.iconst 0, 1, 0, 0, .null, .int) := by decide +kernel
theorem jF_37_27 : j_F 37 27 = some (.ireturn, 1, 0, 0, .null, .boolean) := by decide +kernel
theorem jF_37_28 : j_F 37 28 = some (.aload_n 0, 1, 0, 0, .null, .int) := by decide +kernel
theorem jF_37_29 : j_F 37 29 = some (.aload_n 0, 1, 0, 0, .null, .int) := by decide +kernel
theorem jF_37_30 : j_F 37 30 = some (.getfield 22, 3, 6, 2, .null, .int) := by decide +kernel
theorem jF_37_33 : j_F 37 33 = some (.putfield 43, 3, 6, 5, .null, .int) := by decide +kernel
theorem jF_37_36 : j_F 37 36 = some (.aload_n 0, 1, 0, 0, .null, .int) := by decide +kernel
theorem jF_37_37 : j_F 37 37 = some (.iconst 0, 1, 0, 0, .null, .int) := by decide +kernel
theorem jF_37_38 : j_F 37 38 = some (.putfield 46, 3, 6, 6, .null, .int) := by decide +kernel
theorem jF_37_41 : j_F 37 41 = some (.aload_n 0, 1, 0, 0, .null, .int) := by decide +kernel
theorem jF_37_42 : j_F 37 42 = some (.iconst 0, 1, 0, 0, .null, .int) := by decide +kernel
theorem jF_37_43 : j_F 37 43 = some (.putfield 49, 3, 6, 7, .null, .int) := by decide +kernel
theorem jF_37_46 : j_F 37 46 = some (.aload_n 0, 1, 0, 0, .null, .int) := by decide +kernel
theorem jF_37_47 : j_F 37 47 = some (.getfield 22, 3, 6, 2, .null, .int) := by decide +kernel
theorem jF_37_50 : j_F 37 50 = some (.istore_n 1, 1, 0, 0, .null, .int) := by decide +kernel
theorem jF_37_51 : j_F 37 51 = some (.iload_n 1, 1, 0, 0, .null, .int) := by decide +kernel
theorem jF_37_52 : j_F 37 52 = some (.aload_n 0, 1, 0, 0, .null, .int) := by decide +kernel
theorem jF_37_53 : j_F 37 53 = some (.getfield 19, 3, 6, 1, .null, .int) := by decide +kernel
theorem jF_37_56 : j_F 37 56 = some (.if_icmp .ge 67, 3, 123, 0, .null, .int) := by decide +kernel
theorem jF_37_59 : j_F 37 59 = some (.aload_n 0, 1, 0, 0, .null, .int) := by decide +kernel
theorem jF_37_60 : j_F 37 60 = some (.iload_n 1, 1, 0, 0, .null, .int) := by decide +kernel
theorem jF_37_61 : j_F 37 61 = some (.invokevirtual 36, 3, 39, 2, .null, .int) := by decide +kernel
theorem jF_37_64 : j_F 37 64 = some (.invokestatic 32, 3, 38, 1, .null, .int) := by decide +kernel
theorem jF_37_67 : j_F 37 67 = some (.ifCond .eq 56, 3, 123, 0, .null, .int) := by decide +kernel
theorem jF_37_70 : j_F 37 70 = some (.aload_n 0, 1, 0, 0, .null, .int) := by decide +kernel
theorem jF_37_71 : j_F 37 71 = some (.getfield 46, 3, 6, 6, .null, .int) := by decide +kernel
theorem jF_37_74 : j_F 37 74 = some (.bipush 6, 2, 0, 0, .null, .int) := by decide +kernel
theorem jF_37_76 : j_F 37 76 = some (.if_icmp .ge 31, 3, 107, 0, .null, .int) := by decide +kernel
theorem jF_37_79 : j_F 37 79 = some (.aload_n 0, 1, 0, 0, .null, .int) := by decide +kernel
theorem jF_37_80 : j_F 37 80 = some (.dup, 1, 0, 0, .null, .int) := by decide +kernel
theorem jF_37_81 : j_F 37 81 = some (.getfield 49, 3, 6, 7, .null, .int) := by decide +kernel
theorem jF_37_84 : j_F 37 84 = some (.aload_n 0, 1, 0, 0, .null, .int) := by decide +kernel
theorem jF_37_85 : j_F 37 85 = some (.getfield 11, 3, 6, 0, .null, (.array .int)) := by decide +kernel
theorem jF_37_88 : j_F 37 88 = some (.iload_n 1, 1, 0, 0, .null, .int) := by decide +kernel
theorem jF_37_89 : j_F 37 89 = some (.iaload, 1, 0, 0, .null, .int) := by decide +kernel
theorem jF_37_90 : j_F 37 90 = some (.bipush 96, 2, 0, 0, .null, .int) := by decide +kernel
theorem jF_37_92 : j_F 37 92 = some (.isub, 1, 0, 0, .null, .int) := by decide +kernel
theorem jF_37_93 : j_F 37 93 = some (.bipush 25, 2, 0, 0, .null, .int) := by decide +kernel
theorem jF_37_95 : j_F 37 95 = some (.iconst 5, 1, 0, 0, .null, .int) := by decide +kernel
theorem jF_37_96 : j_F 37 96 = some (.aload_n 0, 1, 0, 0, .null, .int) := by decide +kernel
theorem jF_37_97 : j_F 37 97 = some (.getfield 46, 3, 6, 6, .null, .int) := by decide +kernel
theorem jF_37_100 : j_F 37 100 = some (.imul, 1, 0, 0, .null, .int) := by decide +kernel
theorem jF_37_101 : j_F 37 101 = some (.isub, 1, 0, 0, .null, .int) := by decide +kernel
theorem jF_37_102 : j_F 37 102 = some (.ishl, 1, 0, 0, .null, .int) := by decide +kernel
theorem jF_37_103 : j_F 37 103 = some (.ior, 1, 0, 0, .null, .int) := by decide +kernel
theorem jF_37_104 : j_F 37 104 = some (.putfield 49, 3, 6, 7, .null, .int) := by decide +kernel
theorem jF_37_107 : j_F 37 107 = some (.aload_n 0, 1, 0, 0, .null, .int) := by decide +kernel
theorem jF_37_108 : j_F 37 108 = some (.dup, 1, 0, 0, .null, .int) := by decide +kernel
theorem jF_37_109 : j_F 37 109 = some (.getfield 46, 3, 6, 6, .null, .int) := by decide +kernel
theorem jF_37_112 : j_F 37 112 = some (.iconst 1, 1, 0, 0, .null, .int) := by decide +kernel
theorem jF_37_113 : j_F 37 113 = some (.iadd, 1, 0, 0, .null, .int) := by decide +kernel
theorem jF_37_114 : j_F 37 114 = some (.putfield 46, 3, 6, 6, .null, .int) := by decide +kernel
theorem jF_37_117 : j_F 37 117 = some (.iinc 1 1, 3, 0, 0, .null, .int) := by decide +kernel
theorem jF_37_120 : j_F 37 120 = some (.goto (-69), 3, 51, 0, .null, .int) := by decide +kernel
theorem jF_37_123 : j_F 37 123 = some (.iconst 1, 1, 0, 0, .null, .int) := by decide +kernel
theorem jF_37_124 : j_F 37 124 = some (.ireturn, 1, 0, 0, .null, .boolean) := by decide +kernel
theorem jF_38_0 : j_F 38 0 = some (.iload_n 0, 1, 0, 0, .null, .int) := by decide +kernel
theorem jF_38_1 : j_F 38 1 = some (.bipush 97, 2, 0, 0, .null, .int) := by decide +kernel
theorem jF_38_3 : j_F 38 3 = some (.if_icmp .lt 13, 3, 16, 0, .null, .int) := by decide +kernel
theorem jF_38_6 : j_F 38 6 = some (.iload_n 0, 1, 0, 0, .null, .int) := by decide +kernel
theorem jF_38_7 : j_F 38 7 = some (.bipush 122, 2, 0, 0, .null, .int) := by decide +kernel
theorem jF_38_9 : j_F 38 9 = some (.if_icmp .gt 7, 3, 16, 0, .null, .int) := by decide +kernel
theorem jF_38_12 : j_F 38 12 = some (.iconst 1, 1, 0, 0, .null, .int) := by decide +kernel
theorem jF_38_13 : j_F 38 13 = some (.goto 4, 3, 17, 0, .null, .int) := by decide +kernel
theorem jF_38_16 : j_F 38 16 = some (.iconst 0, 1, 0, 0, .null, .int) := by decide +kernel
theorem jF_38_17 : j_F 38 17 = some (.ireturn, 1, 0, 0, .null, .boolean) := by decide +kernel
theorem jF_39_0 : j_F 39 0 = some (.iload_n 1, 1, 0, 0, .null, .int) := by decide +kernel
theorem jF_39_1 : j_F 39 1 = some (.ifCond .lt 20, 3, 21, 0, .null, .int) := by decide +kernel
theorem jF_39_4 : j_F 39 4 = some (.iload_n 1, 1, 0, 0, .null, .int) := by decide +kernel
theorem jF_39_5 : j_F 39 5 = some (.aload_n 0, 1, 0, 0, .null, .int) := by decide +kernel
theorem jF_39_6 : j_F 39 6 = some (.getfield 19, 3, 6, 1, .null, .int) := by decide +kernel
theorem jF_39_9 : j_F 39 9 = some (.if_icmp .ge 12, 3, 21, 0, .null, .int) := by decide +kernel
theorem jF_39_12 : j_F 39 12 = some (.aload_n 0, 1, 0, 0, .null, .int) := by decide +kernel
theorem jF_39_13 : j_F 39 13 = some (.getfield 11, 3, 6, 0, .null, (.array .int)) := by decide +kernel
theorem jF_39_16 : j_F 39 16 = some (.iload_n 1, 1, 0, 0, .null, .int) := by decide +kernel
theorem jF_39_17 : j_F 39 17 = some (.iaload, 1, 0, 0, .null, .int) := by decide +kernel
theorem jF_39_18 : j_F 39 18 = some (.goto 4, 3, 22, 0, .null, .int) := by decide +kernel
theorem jF_39_21 : j_F 39 21 = some (.iconst (-1), 1, 0, 0, .null, .int) := by decide +kernel
theorem jF_39_22 : j_F 39 22 = some (.ireturn, 1, 0, 0, .null, .int) := by decide +kernel
theorem jF_40_0 : j_F 40 0 = some (.iload_n 0, 1, 0, 0, .null, .int) := by decide +kernel
theorem jF_40_1 : j_F 40 1 = some (.bipush 48, 2, 0, 0, .null, .int) := by decide +kernel
theorem jF_40_3 : j_F 40 3 = some (.if_icmp .lt 13, 3, 16, 0, .null, .int) := by decide +kernel
theorem jF_40_6 : j_F 40 6 = some (.iload_n 0, 1, 0, 0, .null, .int) := by decide +kernel
theorem jF_40_7 : j_F 40 7 = some (.bipush 57, 2, 0, 0, .null, .int) := by decide +kernel
theorem jF_40_9 : j_F 40 9 = some (.if_icmp .gt 7, 3, 16, 0, .null, .int) := by decide +kernel
theorem jF_40_12 : j_F 40 12 = some (.iconst 1, 1, 0, 0, .null, .int) := by decide +kernel
theorem jF_40_13 : j_F 40 13 = some (.goto 4, 3, 17, 0, .null, .int) := by decide +kernel
theorem jF_40_16 : j_F 40 16 = some (.iconst 0, 1, 0, 0, .null, .int) := by decide +kernel
theorem jF_40_17 : j_F 40 17 = some (.ireturn, 1, 0, 0, .null, .boolean) := by decide +kernel
theorem jF_41_0 : j_F 41 0 = some (.iconst 0, 1, 0, 0, .null, .int) := by decide +kernel
theorem jF_41_1 : j_F 41 1 = some (.istore_n 2, 1, 0, 0, .null, .int) := by decide +kernel
theorem jF_41_2 : j_F 41 2 = some (.iload_n 2, 1, 0, 0, .null, .int) := by decide +kernel
theorem jF_41_3 : j_F 41 3 = some (.aload_n 1, 1, 0, 0, .null, .int) := by decide +kernel
theorem jF_41_4 : j_F 41 4 = some (.arraylength, 1, 0, 0, .null, .int) := by decide +kernel
theorem jF_41_5 : j_F 41 5 = some (.if_icmp .ge 30, 3, 35, 0, .null, .int) := by decide +kernel
theorem jF_41_8 : j_F 41 8 = some (.aload_n 1, 1, 0, 0, .null, .int) := by decide +kernel
theorem jF_41_9 : j_F 41 9 = some (.iload_n 2, 1, 0, 0, .null, .int) := by decide +kernel
theorem jF_41_10 : j_F 41 10 = some (.iaload, 1, 0, 0, .null, .int) := by decide +kernel
theorem jF_41_11 : j_F 41 11 = some (.aload_n 0, 1, 0, 0, .null, .int) := by decide +kernel
theorem jF_41_12 : j_F 41 12 = some (.getfield 49, 3, 6, 7, .null, .int) := by decide +kernel
theorem jF_41_15 : j_F 41 15 = some (.if_icmp .ne 14, 3, 29, 0, .null, .int) := by decide +kernel
theorem jF_41_18 : j_F 41 18 = some (.aload_n 0, 1, 0, 0, .null, .int) := by decide +kernel
theorem jF_41_19 : j_F 41 19 = some (.getfield 46, 3, 6, 6, .null, .int) := by decide +kernel
theorem jF_41_22 : j_F 41 22 = some (.bipush 6, 2, 0, 0, .null, .int) := by decide +kernel
theorem jF_41_24 : j_F 41 24 = some (.if_icmp .gt 5, 3, 29, 0, .null, .int) := by decide +kernel
theorem jF_41_27 : j_F 41 27 = some (.iload_n 2, 1, 0, 0, .null, .int) := by decide +kernel
theorem jF_41_28 : j_F 41 28 = some (.ireturn, 1, 0, 0, .null, .int) := by decide +kernel
theorem jF_41_29 : j_F 41 29 = some (.iinc 2 1, 3, 0, 0, .null, .int) := by decide +kernel
theorem jF_41_32 : j_F 41 32 = some (.goto (-30), 3, 2, 0, .null, .int) := by decide +kernel
theorem jF_41_35 : j_F 41 35 = some (.iconst (-1), 1, 0, 0, .null, .int) := by decide +kernel
theorem jF_41_36 : j_F 41 36 = some (.ireturn, 1, 0, 0, .null, .int) := by decide +kernel
theorem jF_42_0 : j_F 42 0 = some (.aload_n 0, 1, 0, 0, .null, .int) := by decide +kernel
theorem jF_42_1 : j_F 42 1 = some (.iload_n 1, 1, 0, 0, .null, .int) := by decide +kernel
theorem jF_42_2 : j_F 42 2 = some (.putfield 25, 3, 6, 3, .null, .int) := by decide +kernel
theorem jF_42_5 : j_F 42 5 = some (.aload_n 0, 1, 0, 0, .null, .int) := by decide +kernel
theorem jF_42_6 : j_F 42 6 = some (.iload_n 2, 1, 0, 0, .null, .int) := by decide +kernel
theorem jF_42_7 : j_F 42 7 = some (.putfield 15, 3, 6, 4, .null, .int) := by decide +kernel
theorem jF_42_10 : j_F 42 10 = some (.iconst 0, 1, 0, 0, .null, .int) := by decide +kernel
theorem jF_42_11 : j_F 42 11 = some (.ireturn, 1, 0, 0, .null, .boolean) := by decide +kernel
theorem jF_45_0 : j_F 45 0 = some (.aload_n 0, 1, 0, 0, .null, .int) := by decide +kernel
theorem jF_45_1 : j_F 45 1 = some (.aload_n 0, 1, 0, 0, .null, .int) := by decide +kernel
theorem jF_45_2 : j_F 45 2 = some (.getfield 43, 3, 6, 5, .null, .int) := by decide +kernel
theorem jF_45_5 : j_F 45 5 = some (.aload_n 0, 1, 0, 0, .null, .int) := by decide +kernel
theorem jF_45_6 : j_F 45 6 = some (.getfield 46, 3, 6, 6, .null, .int) := by decide +kernel
theorem jF_45_9 : j_F 45 9 = some (.iadd, 1, 0, 0, .null, .int) := by decide +kernel
theorem jF_45_10 : j_F 45 10 = some (.putfield 22, 3, 6, 2, .null, .int) := by decide +kernel
theorem jF_45_13 : j_F 45 13 = some (.return_, 1, 0, 0, .null, .int) := by decide +kernel
theorem jF_49_0 : j_F 49 0 = some (.aload_n 0, 1, 0, 0, .null, .int) := by decide +kernel
theorem jF_49_1 : j_F 49 1 = some (.invokevirtual 56, 3, 37, 1, .null, .int) := by decide +kernel
theorem jF_49_4 : j_F 49 4 = some (.ifCond .ne 13, 3, 17, 0, .null, .int) := by decide +kernel
theorem jF_49_7 : j_F 49 7 = some (.aload_n 0, 1, 0, 0, .null, .int) := by decide +kernel
theorem jF_49_8 : j_F 49 8 = some (.iconst 1, 1, 0, 0, .null, .int) := by decide +kernel
theorem jF_49_9 : j_F 49 9 = some (.aload_n 0, 1, 0, 0, .null, .int) := by decide +kernel
theorem jF_49_10 : j_F 49 10 = some (.getfield 22, 3, 6, 2, .null, .int) := by decide +kernel
theorem jF_49_13 : j_F 49 13 = some (.invokevirtual 52, 3, 42, 3, .null, .int) := by decide +kernel
theorem jF_49_16 : j_F 49 16 = some (.ireturn, 1, 0, 0, .null, .boolean) := by decide +kernel
theorem jF_49_17 : j_F 49 17 = some (.aload_n 0, 1, 0, 0, .null, .int) := by decide +kernel
theorem jF_49_18 : j_F 49 18 = some (.getfield 46, 3, 6, 6, .null, .int) := by decide +kernel
theorem jF_49_21 : j_F 49 21 = some (.bipush 6, 2, 0, 0, .null, .int) := by decide +kernel
theorem jF_49_23 : j_F 49 23 = some (.if_icmp .le 16, 3, 39, 0, .null, .int) := by decide +kernel
theorem jF_49_26 : j_F 49 26 = some (.aload_n 0, 1, 0, 0, .null, .int) := by decide +kernel
theorem jF_49_27 : j_F 49 27 = some (.iconst 1, 1, 0, 0, .null, .int) := by decide +kernel
theorem jF_49_28 : j_F 49 28 = some (.aload_n 0, 1, 0, 0, .null, .int) := by decide +kernel
theorem jF_49_29 : j_F 49 29 = some (.getfield 43, 3, 6, 5, .null, .int) := by decide +kernel
theorem jF_49_32 : j_F 49 32 = some (.bipush 6, 2, 0, 0, .null, .int) := by decide +kernel
theorem jF_49_34 : j_F 49 34 = some (.iadd, 1, 0, 0, .null, .int) := by decide +kernel
theorem jF_49_35 : j_F 49 35 = some (.invokevirtual 52, 3, 42, 3, .null, .int) := by decide +kernel
theorem jF_49_38 : j_F 49 38 = some (.ireturn, 1, 0, 0, .null, .boolean) := by decide +kernel
theorem jF_49_39 : j_F 49 39 = some (.aload_n 0, 1, 0, 0, .null, .int) := by decide +kernel
theorem jF_49_40 : j_F 49 40 = some (.aload_n 1, 1, 0, 0, .null, .int) := by decide +kernel
theorem jF_49_41 : j_F 49 41 = some (.invokevirtual 60, 3, 41, 2, .null, .int) := by decide +kernel
theorem jF_49_44 : j_F 49 44 = some (.iconst (-1), 1, 0, 0, .null, .int) := by decide +kernel
theorem jF_49_45 : j_F 49 45 = some (.if_icmp .eq 13, 3, 58, 0, .null, .int) := by decide +kernel
theorem jF_49_48 : j_F 49 48 = some (.aload_n 0, 1, 0, 0, .null, .int) := by decide +kernel
theorem jF_49_49 : j_F 49 49 = some (.iconst 1, 1, 0, 0, .null, .int) := by decide +kernel
theorem jF_49_50 : j_F 49 50 = some (.aload_n 0, 1, 0, 0, .null, .int) := by decide +kernel
theorem jF_49_51 : j_F 49 51 = some (.getfield 43, 3, 6, 5, .null, .int) := by decide +kernel
theorem jF_49_54 : j_F 49 54 = some (.invokevirtual 52, 3, 42, 3, .null, .int) := by decide +kernel
theorem jF_49_57 : j_F 49 57 = some (.ireturn, 1, 0, 0, .null, .boolean) := by decide +kernel
theorem jF_49_58 : j_F 49 58 = some (.aload_n 0, 1, 0, 0, .null, .int) := by decide +kernel
theorem jF_49_59 : j_F 49 59 = some (.invokevirtual 64, 3, 45, 1, .null, .int) := by decide +kernel
theorem jF_49_62 : j_F 49 62 = some (.iconst 1, 1, 0, 0, .null, .int) := by decide +kernel
theorem jF_49_63 : j_F 49 63 = some (.ireturn, 1, 0, 0, .null, .boolean) := by decide +kernel
theorem jF_54_0 : j_F 54 0 = some (.aload_n 0, 1, 0, 0, .null, .int) := by decide +kernel
theorem jF_54_1 : j_F 54 1 = some (.invokevirtual 28, 3, 35, 1, .null, .int) := by decide +kernel
theorem jF_54_4 : j_F 54 4 = some (.invokestatic 40, 3, 40, 1, .null, .int) := by decide +kernel
theorem jF_54_7 : j_F 54 7 = some (.ifCond .eq 19, 3, 26, 0, .null, .int) := by decide +kernel
theorem jF_54_10 : j_F 54 10 = some (.aload_n 0, 1, 0, 0, .null, .int) := by decide +kernel
theorem jF_54_11 : j_F 54 11 = some (.aload_n 0, 1, 0, 0, .null, .int) := by decide +kernel
theorem jF_54_12 : j_F 54 12 = some (.getfield 22, 3, 6, 2, .null, .int) := by decide +kernel
theorem jF_54_15 : j_F 54 15 = some (.iconst 1, 1, 0, 0, .null, .int) := by decide +kernel
theorem jF_54_16 : j_F 54 16 = some (.isub, 1, 0, 0, .null, .int) := by decide +kernel
theorem jF_54_17 : j_F 54 17 = some (.invokevirtual 36, 3, 39, 2, .null, .int) := by decide +kernel
theorem jF_54_20 : j_F 54 20 = some (.invokestatic 32, 3, 38, 1, .null, .int) := by decide +kernel
theorem jF_54_23 : j_F 54 23 = some (.ifCond .eq 13, 3, 36, 0, .null, .int) := by decide +kernel
theorem jF_54_26 : j_F 54 26 = some (.aload_n 0, 1, 0, 0, .null, .int) := by decide +kernel
theorem jF_54_27 : j_F 54 27 = some (.iconst 1, 1, 0, 0, .null, .int) := by decide +kernel
theorem jF_54_28 : j_F 54 28 = some (.aload_n 0, 1, 0, 0, .null, .int) := by decide +kernel
theorem jF_54_29 : j_F 54 29 = some (.getfield 22, 3, 6, 2, .null, .int) := by decide +kernel
theorem jF_54_32 : j_F 54 32 = some (.invokevirtual 52, 3, 42, 3, .null, .int) := by decide +kernel
theorem jF_54_35 : j_F 54 35 = some (.ireturn, 1, 0, 0, .null, .boolean) := by decide +kernel
theorem jF_54_36 : j_F 54 36 = some (.aload_n 0, 1, 0, 0, .null, .int) := by decide +kernel
theorem jF_54_37 : j_F 54 37 = some (.aload_n 0, 1, 0, 0, .null, .int) := by decide +kernel
theorem jF_54_38 : j_F 54 38 = some (.getfield 22, 3, 6, 2, .null, .int) := by decide +kernel
theorem jF_54_41 : j_F 54 41 = some (.putfield 43, 3, 6, 5, .null, .int) := by decide +kernel
theorem jF_54_44 : j_F 54 44 = some (.aload_n 0, 1, 0, 0, .null, .int) := by decide +kernel
theorem jF_54_45 : j_F 54 45 = some (.iconst 0, 1, 0, 0, .null, .int) := by decide +kernel
theorem jF_54_46 : j_F 54 46 = some (.putfield 67, 3, 6, 8, .null, .int) := by decide +kernel
theorem jF_54_49 : j_F 54 49 = some (.aload_n 0, 1, 0, 0, .null, .int) := by decide +kernel
theorem jF_54_50 : j_F 54 50 = some (.iconst 0, 1, 0, 0, .null, .int) := by decide +kernel
theorem jF_54_51 : j_F 54 51 = some (.putfield 46, 3, 6, 6, .null, .int) := by decide +kernel
theorem jF_54_54 : j_F 54 54 = some (.aload_n 0, 1, 0, 0, .null, .int) := by decide +kernel
theorem jF_54_55 : j_F 54 55 = some (.getfield 46, 3, 6, 6, .null, .int) := by decide +kernel
theorem jF_54_58 : j_F 54 58 = some (.iconst 4, 1, 0, 0, .null, .int) := by decide +kernel
theorem jF_54_59 : j_F 54 59 = some (.if_icmp .gt 63, 3, 122, 0, .null, .int) := by decide +kernel
theorem jF_54_62 : j_F 54 62 = some (.aload_n 0, 1, 0, 0, .null, .int) := by decide +kernel
theorem jF_54_63 : j_F 54 63 = some (.aload_n 0, 1, 0, 0, .null, .int) := by decide +kernel
theorem jF_54_64 : j_F 54 64 = some (.getfield 43, 3, 6, 5, .null, .int) := by decide +kernel
theorem jF_54_67 : j_F 54 67 = some (.aload_n 0, 1, 0, 0, .null, .int) := by decide +kernel
theorem jF_54_68 : j_F 54 68 = some (.getfield 46, 3, 6, 6, .null, .int) := by decide +kernel
theorem jF_54_71 : j_F 54 71 = some (.iadd, 1, 0, 0, .null, .int) := by decide +kernel
theorem jF_54_72 : j_F 54 72 = some (.invokevirtual 36, 3, 39, 2, .null, .int) := by decide +kernel
theorem jF_54_75 : j_F 54 75 = some (.invokestatic 40, 3, 40, 1, .null, .int) := by decide +kernel
theorem jF_54_78 : j_F 54 78 = some (.ifCond .eq 44, 3, 122, 0, .null, .int) := by decide +kernel
theorem jF_54_81 : j_F 54 81 = some (.aload_n 0, 1, 0, 0, .null, .int) := by decide +kernel
theorem jF_54_82 : j_F 54 82 = some (.aload_n 0, 1, 0, 0, .null, .int) := by decide +kernel
theorem jF_54_83 : j_F 54 83 = some (.getfield 67, 3, 6, 8, .null, .int) := by decide +kernel
theorem jF_54_86 : j_F 54 86 = some (.bipush 10, 2, 0, 0, .null, .int) := by decide +kernel
theorem jF_54_88 : j_F 54 88 = some (.imul, 1, 0, 0, .null, .int) := by decide +kernel
theorem jF_54_89 : j_F 54 89 = some (.aload_n 0, 1, 0, 0, .null, .int) := by decide +kernel
theorem jF_54_90 : j_F 54 90 = some (.aload_n 0, 1, 0, 0, .null, .int) := by decide +kernel
theorem jF_54_91 : j_F 54 91 = some (.getfield 43, 3, 6, 5, .null, .int) := by decide +kernel
theorem jF_54_94 : j_F 54 94 = some (.aload_n 0, 1, 0, 0, .null, .int) := by decide +kernel
theorem jF_54_95 : j_F 54 95 = some (.getfield 46, 3, 6, 6, .null, .int) := by decide +kernel
theorem jF_54_98 : j_F 54 98 = some (.iadd, 1, 0, 0, .null, .int) := by decide +kernel
theorem jF_54_99 : j_F 54 99 = some (.invokevirtual 36, 3, 39, 2, .null, .int) := by decide +kernel
theorem jF_54_102 : j_F 54 102 = some (.iadd, 1, 0, 0, .null, .int) := by decide +kernel
theorem jF_54_103 : j_F 54 103 = some (.bipush 48, 2, 0, 0, .null, .int) := by decide +kernel
theorem jF_54_105 : j_F 54 105 = some (.isub, 1, 0, 0, .null, .int) := by decide +kernel
theorem jF_54_106 : j_F 54 106 = some (.putfield 67, 3, 6, 8, .null, .int) := by decide +kernel
theorem jF_54_109 : j_F 54 109 = some (.aload_n 0, 1, 0, 0, .null, .int) := by decide +kernel
theorem jF_54_110 : j_F 54 110 = some (.dup, 1, 0, 0, .null, .int) := by decide +kernel
theorem jF_54_111 : j_F 54 111 = some (.getfield 46, 3, 6, 6, .null, .int) := by decide +kernel
theorem jF_54_114 : j_F 54 114 = some (.iconst 1, 1, 0, 0, .null, .int) := by decide +kernel
theorem jF_54_115 : j_F 54 115 = some (.iadd, 1, 0, 0, .null, .int) := by decide +kernel
theorem jF_54_116 : j_F 54 116 = some (.putfield 46, 3, 6, 6, .null, .int) := by decide +kernel
theorem jF_54_119 : j_F 54 119 = some (.goto (-65), 3, 54, 0, .null, .int) := by decide +kernel
theorem jF_54_122 : j_F 54 122 = some (.aload_n 0, 1, 0, 0, .null, .int) := by decide +kernel
theorem jF_54_123 : j_F 54 123 = some (.getfield 46, 3, 6, 6, .null, .int) := by decide +kernel
theorem jF_54_126 : j_F 54 126 = some (.iconst 4, 1, 0, 0, .null, .int) := by decide +kernel
theorem jF_54_127 : j_F 54 127 = some (.if_icmp .le 15, 3, 142, 0, .null, .int) := by decide +kernel
theorem jF_54_130 : j_F 54 130 = some (.aload_n 0, 1, 0, 0, .null, .int) := by decide +kernel
theorem jF_54_131 : j_F 54 131 = some (.iconst 1, 1, 0, 0, .null, .int) := by decide +kernel
theorem jF_54_132 : j_F 54 132 = some (.aload_n 0, 1, 0, 0, .null, .int) := by decide +kernel
theorem jF_54_133 : j_F 54 133 = some (.getfield 43, 3, 6, 5, .null, .int) := by decide +kernel
theorem jF_54_136 : j_F 54 136 = some (.iconst 4, 1, 0, 0, .null, .int) := by decide +kernel
theorem jF_54_137 : j_F 54 137 = some (.iadd, 1, 0, 0, .null, .int) := by decide +kernel
theorem jF_54_138 : j_F 54 138 = some (.invokevirtual 52, 3, 42, 3, .null, .int) := by decide +kernel
theorem jF_54_141 : j_F 54 141 = some (.ireturn, 1, 0, 0, .null, .boolean) := by decide +kernel
theorem jF_54_142 : j_F 54 142 = some (.aload_n 0, 1, 0, 0, .null, .int) := by decide +kernel
theorem jF_54_143 : j_F 54 143 = some (.invokevirtual 64, 3, 45, 1, .null, .int) := by decide +kernel
theorem jF_54_146 : j_F 54 146 = some (.aload_n 0, 1, 0, 0, .null, .int) := by decide +kernel
theorem jF_54_147 : j_F 54 147 = some (.getfield 67, 3, 6, 8, .null, .int) := by decide +kernel
theorem jF_54_150 : j_F 54 150 = some (.iload_n 1, 1, 0, 0, .null, .int) := by decide +kernel
theorem jF_54_151 : j_F 54 151 = some (.if_icmp .lt 11, 3, 162, 0, .null, .int) := by decide +kernel
theorem jF_54_154 : j_F 54 154 = some (.aload_n 0, 1, 0, 0, .null, .int) := by decide +kernel
theorem jF_54_155 : j_F 54 155 = some (.getfield 67, 3, 6, 8, .null, .int) := by decide +kernel
theorem jF_54_158 : j_F 54 158 = some (.iload_n 2, 1, 0, 0, .null, .int) := by decide +kernel
theorem jF_54_159 : j_F 54 159 = some (.if_icmp .le 15, 3, 174, 0, .null, .int) := by decide +kernel
theorem jF_54_162 : j_F 54 162 = some (.aload_n 0, 1, 0, 0, .null, .int) := by decide +kernel
theorem jF_54_163 : j_F 54 163 = some (.iconst 2, 1, 0, 0, .null, .int) := by decide +kernel
theorem jF_54_164 : j_F 54 164 = some (.aload_n 0, 1, 0, 0, .null, .int) := by decide +kernel
theorem jF_54_165 : j_F 54 165 = some (.getfield 43, 3, 6, 5, .null, .int) := by decide +kernel
theorem jF_54_168 : j_F 54 168 = some (.invokevirtual 52, 3, 42, 3, .null, .int) := by decide +kernel
theorem jF_54_171 : j_F 54 171 = some (.ifCond .eq 7, 3, 178, 0, .null, .int) := by decide +kernel
theorem jF_54_174 : j_F 54 174 = some (.iconst 1, 1, 0, 0, .null, .int) := by decide +kernel
theorem jF_54_175 : j_F 54 175 = some (.goto 4, 3, 179, 0, .null, .int) := by decide +kernel
theorem jF_54_178 : j_F 54 178 = some (.iconst 0, 1, 0, 0, .null, .int) := by decide +kernel
theorem jF_54_179 : j_F 54 179 = some (.ireturn, 1, 0, 0, .null, .boolean) := by decide +kernel
theorem jF_56_0 : j_F 56 0 = some (.aload_n 0, 1, 0, 0, .null, .int) := by decide +kernel
theorem jF_56_1 : j_F 56 1 = some (.invokevirtual 56, 3, 37, 1, .null, .int) := by decide +kernel
theorem jF_56_4 : j_F 56 4 = some (.ifCond .eq 12, 3, 16, 0, .null, .int) := by decide +kernel
theorem jF_56_7 : j_F 56 7 = some (.aload_n 0, 1, 0, 0, .null, .int) := by decide +kernel
theorem jF_56_8 : j_F 56 8 = some (.aload_n 1, 1, 0, 0, .null, .int) := by decide +kernel
theorem jF_56_9 : j_F 56 9 = some (.invokevirtual 60, 3, 41, 2, .null, .int) := by decide +kernel
theorem jF_56_12 : j_F 56 12 = some (.iload_n 2, 1, 0, 0, .null, .int) := by decide +kernel
theorem jF_56_13 : j_F 56 13 = some (.if_icmp .eq 13, 3, 26, 0, .null, .int) := by decide +kernel
theorem jF_56_16 : j_F 56 16 = some (.aload_n 0, 1, 0, 0, .null, .int) := by decide +kernel
theorem jF_56_17 : j_F 56 17 = some (.iconst 1, 1, 0, 0, .null, .int) := by decide +kernel
theorem jF_56_18 : j_F 56 18 = some (.aload_n 0, 1, 0, 0, .null, .int) := by decide +kernel
theorem jF_56_19 : j_F 56 19 = some (.getfield 22, 3, 6, 2, .null, .int) := by decide +kernel
theorem jF_56_22 : j_F 56 22 = some (.invokevirtual 52, 3, 42, 3, .null, .int) := by decide +kernel
theorem jF_56_25 : j_F 56 25 = some (.ireturn, 1, 0, 0, .null, .boolean) := by decide +kernel
theorem jF_56_26 : j_F 56 26 = some (.aload_n 0, 1, 0, 0, .null, .int) := by decide +kernel
theorem jF_56_27 : j_F 56 27 = some (.invokevirtual 64, 3, 45, 1, .null, .int) := by decide +kernel
theorem jF_56_30 : j_F 56 30 = some (.iconst 1, 1, 0, 0, .null, .int) := by decide +kernel
theorem jF_56_31 : j_F 56 31 = some (.ireturn, 1, 0, 0, .null, .boolean) := by decide +kernel
theorem jF_68_0 : j_F 68 0 = some (.aload_n 0, 1, 0, 0, .null, .int) := by decide +kernel
theorem jF_68_1 : j_F 68 1 = some (.invokevirtual 28, 3, 35, 1, .null, .int) := by decide +kernel
theorem jF_68_4 : j_F 68 4 = some (.iload_n 1, 1, 0, 0, .null, .int) := by decide +kernel
theorem jF_68_5 : j_F 68 5 = some (.if_icmp .eq 13, 3, 18, 0, .null, .int) := by decide +kernel
theorem jF_68_8 : j_F 68 8 = some (.aload_n 0, 1, 0, 0, .null, .int) := by decide +kernel
theorem jF_68_9 : j_F 68 9 = some (.iconst 1, 1, 0, 0, .null, .int) := by decide +kernel
theorem jF_68_10 : j_F 68 10 = some (.aload_n 0, 1, 0, 0, .null, .int) := by decide +kernel
theorem jF_68_11 : j_F 68 11 = some (.getfield 22, 3, 6, 2, .null, .int) := by decide +kernel
theorem jF_68_14 : j_F 68 14 = some (.invokevirtual 52, 3, 42, 3, .null, .int) := by decide +kernel
theorem jF_68_17 : j_F 68 17 = some (.ireturn, 1, 0, 0, .null, .boolean) := by decide +kernel
theorem jF_68_18 : j_F 68 18 = some (.aload_n 0, 1, 0, 0, .null, .int) := by decide +kernel
theorem jF_68_19 : j_F 68 19 = some (.dup, 1, 0, 0, .null, .int) := by decide +kernel
theorem jF_68_20 : j_F 68 20 = some (.getfield 22, 3, 6, 2, .null, .int) := by decide +kernel
theorem jF_68_23 : j_F 68 23 = some (.iconst 1, 1, 0, 0, .null, .int) := by decide +kernel
theorem jF_68_24 : j_F 68 24 = some (.iadd, 1, 0, 0, .null, .int) := by decide +kernel
theorem jF_68_25 : j_F 68 25 = some (.putfield 22, 3, 6, 2, .null, .int) := by decide +kernel
theorem jF_68_28 : j_F 68 28 = some (.iconst 1, 1, 0, 0, .null, .int) := by decide +kernel
theorem jF_68_29 : j_F 68 29 = some (.ireturn, 1, 0, 0, .null, .boolean) := by decide +kernel
theorem jF_78_0 : j_F 78 0 = some (.iload_n 1, 1, 0, 0, .null, .int) := by decide +kernel
theorem jF_78_1 : j_F 78 1 = some (.bipush 18, 2, 0, 0, .null, .int) := by decide +kernel
theorem jF_78_3 : j_F 78 3 = some (.if_icmp .ge 7, 3, 10, 0, .null, .int) := by decide +kernel
theorem jF_78_6 : j_F 78 6 = some (.iconst 0, 1, 0, 0, .null, .int) := by decide +kernel
theorem jF_78_7 : j_F 78 7 = some (.goto 17, 3, 24, 0, .null, .int) := by decide +kernel
theorem jF_78_10 : j_F 78 10 = some (.iload_n 1, 1, 0, 0, .null, .int) := by decide +kernel
theorem jF_78_11 : j_F 78 11 = some (.bipush 19, 2, 0, 0, .null, .int) := by decide +kernel
theorem jF_78_13 : j_F 78 13 = some (.if_icmp .gt 7, 3, 20, 0, .null, .int) := by decide +kernel
theorem jF_78_16 : j_F 78 16 = some (.iconst 1, 1, 0, 0, .null, .int) := by decide +kernel
theorem jF_78_17 : j_F 78 17 = some (.goto 7, 3, 24, 0, .null, .int) := by decide +kernel
theorem jF_78_20 : j_F 78 20 = some (.iload_n 1, 1, 0, 0, .null, .int) := by decide +kernel
theorem jF_78_21 : j_F 78 21 = some (.bipush 18, 2, 0, 0, .null, .int) := by decide +kernel
theorem jF_78_23 : j_F 78 23 = some (.isub, 1, 0, 0, .null, .int) := by decide +kernel
theorem jF_78_24 : j_F 78 24 = some (.istore_n 2, 1, 0, 0, .null, .int) := by decide +kernel
theorem jF_78_25 : j_F 78 25 = some (.iload_n 0, 1, 0, 0, .null, .int) := by decide +kernel
theorem jF_78_26 : j_F 78 26 = some (.iconst 5, 1, 0, 0, .null, .int) := by decide +kernel
theorem jF_78_27 : j_F 78 27 = some (.imul, 1, 0, 0, .null, .int) := by decide +kernel
theorem jF_78_28 : j_F 78 28 = some (.iload_n 2, 1, 0, 0, .null, .int) := by decide +kernel
theorem jF_78_29 : j_F 78 29 = some (.iadd, 1, 0, 0, .null, .int) := by decide +kernel
theorem jF_78_30 : j_F 78 30 = some (.istore_n 3, 1, 0, 0, .null, .int) := by decide +kernel
theorem jF_78_31 : j_F 78 31 = some (.iload_n 0, 1, 0, 0, .null, .int) := by decide +kernel
theorem jF_78_32 : j_F 78 32 = some (.ifCond .lt 24, 3, 56, 0, .null, .int) := by decide +kernel
theorem jF_78_35 : j_F 78 35 = some (.iload_n 2, 1, 0, 0, .null, .int) := by decide +kernel
theorem jF_78_36 : j_F 78 36 = some (.iconst 5, 1, 0, 0, .null, .int) := by decide +kernel
theorem jF_78_37 : j_F 78 37 = some (.if_icmp .ge 19, 3, 56, 0, .null, .int) := by decide +kernel
theorem jF_78_40 : j_F 78 40 = some (.iload_n 3, 1, 0, 0, .null, .int) := by decide +kernel
theorem jF_78_41 : j_F 78 41 = some (.getstatic 25, 3, 0, 0, (.ref 1), .int) := by decide +kernel
theorem jF_78_44 : j_F 78 44 = some (.arraylength, 1, 0, 0, .null, .int) := by decide +kernel
theorem jF_78_45 : j_F 78 45 = some (.if_icmp .ge 11, 3, 56, 0, .null, .int) := by decide +kernel
theorem jF_78_48 : j_F 78 48 = some (.getstatic 25, 3, 0, 0, (.ref 1), .int) := by decide +kernel
theorem jF_78_51 : j_F 78 51 = some (.iload_n 3, 1, 0, 0, .null, .int) := by decide +kernel
theorem jF_78_52 : j_F 78 52 = some (.iaload, 1, 0, 0, .null, .int) := by decide +kernel
theorem jF_78_53 : j_F 78 53 = some (.goto 4, 3, 57, 0, .null, .int) := by decide +kernel
theorem jF_78_56 : j_F 78 56 = some (.iconst (-1), 1, 0, 0, .null, .int) := by decide +kernel
theorem jF_78_57 : j_F 78 57 = some (.ireturn, 1, 0, 0, .null, .int) := by decide +kernel
