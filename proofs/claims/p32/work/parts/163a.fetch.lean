/-! CODE. -/
theorem jF_29_0 : j_F 29 0 = some (.aload_n 1, 1, 0, 0, .null, .int) := by decide +kernel
theorem jF_29_1 : j_F 29 1 = some (.invokevirtual 27, 3, 30, 1, .null, .int) := by decide +kernel
theorem jF_29_4 : j_F 29 4 = some (.aload_n 0, 1, 0, 0, .null, .int) := by decide +kernel
theorem jF_29_5 : j_F 29 5 = some (.getfield 9, 3, 9, 0, .null, (.object "HundredWords$Tape")) := by decide +kernel
theorem jF_29_8 : j_F 29 8 = some (.invokevirtual 32, 3, 34, 1, .null, .int) := by decide +kernel
theorem jF_29_11 : j_F 29 11 = some (.iconst 0, 1, 0, 0, .null, .int) := by decide +kernel
theorem jF_29_12 : j_F 29 12 = some (.istore_n 2, 1, 0, 0, .null, .int) := by decide +kernel
theorem jF_29_13 : j_F 29 13 = some (.iload_n 2, 1, 0, 0, .null, .int) := by decide +kernel
theorem jF_29_14 : j_F 29 14 = some (.bipush 70, 2, 0, 0, .null, .int) := by decide +kernel
theorem jF_29_16 : j_F 29 16 = some (.if_icmp .ge 54, 3, 70, 0, .null, .int) := by decide +kernel
theorem jF_29_19 : j_F 29 19 = some (.aload_n 0, 1, 0, 0, .null, .int) := by decide +kernel
theorem jF_29_20 : j_F 29 20 = some (.getfield 9, 3, 9, 0, .null, (.object "HundredWords$Tape")) := by decide +kernel
theorem jF_29_23 : j_F 29 23 = some (.invokevirtual 35, 3, 35, 1, .null, .int) := by decide +kernel
theorem jF_29_26 : j_F 29 26 = some (.iconst (-1), 1, 0, 0, .null, .int) := by decide +kernel
theorem jF_29_27 : j_F 29 27 = some (.if_icmp .eq 43, 3, 70, 0, .null, .int) := by decide +kernel
theorem jF_29_30 : j_F 29 30 = some (.aload_n 0, 1, 0, 0, .null, .int) := by decide +kernel
theorem jF_29_31 : j_F 29 31 = some (.aload_n 1, 1, 0, 0, .null, .int) := by decide +kernel
theorem jF_29_32 : j_F 29 32 = some (.invokevirtual 39, 3, 36, 2, .null, .int) := by decide +kernel
theorem jF_29_35 : j_F 29 35 = some (.istore_n 3, 1, 0, 0, .null, .int) := by decide +kernel
theorem jF_29_36 : j_F 29 36 = some (.iload_n 3, 1, 0, 0, .null, .int) := by decide +kernel
theorem jF_29_37 : j_F 29 37 = some (.iconst (-1), 1, 0, 0, .null, .int) := by decide +kernel
theorem jF_29_38 : j_F 29 38 = some (.if_icmp .eq 24, 3, 62, 0, .null, .int) := by decide +kernel
theorem jF_29_41 : j_F 29 41 = some (.aload_n 0, 1, 0, 0, .null, .int) := by decide +kernel
theorem jF_29_42 : j_F 29 42 = some (.aload_n 1, 1, 0, 0, .null, .int) := by decide +kernel
theorem jF_29_43 : j_F 29 43 = some (.iload_n 3, 1, 0, 0, .null, .int) := by decide +kernel
theorem jF_29_44 : j_F 29 44 = some (.invokevirtual 43, 3, 46, 3, .null, .int) := by decide +kernel
theorem jF_29_47 : j_F 29 47 = some (.ifCond .eq 15, 3, 62, 0, .null, .int) := by decide +kernel
theorem jF_29_50 : j_F 29 50 = some (.aload_n 0, 1, 0, 0, .null, .int) := by decide +kernel
theorem jF_29_51 : j_F 29 51 = some (.getfield 9, 3, 9, 0, .null, (.object "HundredWords$Tape")) := by decide +kernel
theorem jF_29_54 : j_F 29 54 = some (.bipush 59, 2, 0, 0, .null, .int) := by decide +kernel
theorem jF_29_56 : j_F 29 56 = some (.invokevirtual 47, 3, 68, 2, .null, .int) := by decide +kernel
theorem jF_29_59 : j_F 29 59 = some (.ifCond .ne 5, 3, 64, 0, .null, .int) := by decide +kernel
theorem jF_29_62 : j_F 29 62 = some (.iconst (-1), 1, 0, 0, .null, .int) := by decide +kernel
theorem jF_29_63 : j_F 29 63 = some (.ireturn, 1, 0, 0, .null, .int) := by decide +kernel
theorem jF_29_64 : j_F 29 64 = some (.iinc 2 1, 3, 0, 0, .null, .int) := by decide +kernel
theorem jF_29_67 : j_F 29 67 = some (.goto (-54), 3, 13, 0, .null, .int) := by decide +kernel
theorem jF_29_70 : j_F 29 70 = some (.aload_n 0, 1, 0, 0, .null, .int) := by decide +kernel
theorem jF_29_71 : j_F 29 71 = some (.getfield 9, 3, 9, 0, .null, (.object "HundredWords$Tape")) := by decide +kernel
theorem jF_29_74 : j_F 29 74 = some (.invokevirtual 35, 3, 35, 1, .null, .int) := by decide +kernel
theorem jF_29_77 : j_F 29 77 = some (.iconst (-1), 1, 0, 0, .null, .int) := by decide +kernel
theorem jF_29_78 : j_F 29 78 = some (.if_icmp .eq 21, 3, 99, 0, .null, .int) := by decide +kernel
theorem jF_29_81 : j_F 29 81 = some (.aload_n 0, 1, 0, 0, .null, .int) := by decide +kernel
theorem jF_29_82 : j_F 29 82 = some (.getfield 9, 3, 9, 0, .null, (.object "HundredWords$Tape")) := by decide +kernel
theorem jF_29_85 : j_F 29 85 = some (.iconst 5, 1, 0, 0, .null, .int) := by decide +kernel
theorem jF_29_86 : j_F 29 86 = some (.aload_n 0, 1, 0, 0, .null, .int) := by decide +kernel
theorem jF_29_87 : j_F 29 87 = some (.getfield 9, 3, 9, 0, .null, (.object "HundredWords$Tape")) := by decide +kernel
theorem jF_29_90 : j_F 29 90 = some (.getfield 51, 3, 6, 2, .null, .int) := by decide +kernel
theorem jF_29_93 : j_F 29 93 = some (.invokevirtual 55, 3, 42, 3, .null, .int) := by decide +kernel
theorem jF_29_96 : j_F 29 96 = some (.pop, 1, 0, 0, .null, .int) := by decide +kernel
theorem jF_29_97 : j_F 29 97 = some (.iconst (-1), 1, 0, 0, .null, .int) := by decide +kernel
theorem jF_29_98 : j_F 29 98 = some (.ireturn, 1, 0, 0, .null, .int) := by decide +kernel
theorem jF_29_99 : j_F 29 99 = some (.aload_n 1, 1, 0, 0, .null, .int) := by decide +kernel
theorem jF_29_100 : j_F 29 100 = some (.invokevirtual 59, 3, 69, 1, .null, .int) := by decide +kernel
theorem jF_29_103 : j_F 29 103 = some (.iload_n 2, 1, 0, 0, .null, .int) := by decide +kernel
theorem jF_29_104 : j_F 29 104 = some (.ireturn, 1, 0, 0, .null, .int) := by decide +kernel
theorem jF_36_0 : j_F 36 0 = some (.aload_n 0, 1, 0, 0, .null, .int) := by decide +kernel
theorem jF_36_1 : j_F 36 1 = some (.getfield 9, 3, 9, 0, .null, (.object "HundredWords$Tape")) := by decide +kernel
theorem jF_36_4 : j_F 36 4 = some (.invokevirtual 62, 3, 37, 1, .null, .int) := by decide +kernel
theorem jF_36_7 : j_F 36 7 = some (.ifCond .eq 17, 3, 24, 0, .null, .int) := by decide +kernel
theorem jF_36_10 : j_F 36 10 = some (.aload_n 0, 1, 0, 0, .null, .int) := by decide +kernel
theorem jF_36_11 : j_F 36 11 = some (.getfield 9, 3, 9, 0, .null, (.object "HundredWords$Tape")) := by decide +kernel
theorem jF_36_14 : j_F 36 14 = some (.aload_n 0, 1, 0, 0, .null, .int) := by decide +kernel
theorem jF_36_15 : j_F 36 15 = some (.getfield 23, 3, 9, 1, .null, (.array .int)) := by decide +kernel
theorem jF_36_18 : j_F 36 18 = some (.invokevirtual 66, 3, 41, 2, .null, .int) := by decide +kernel
theorem jF_36_21 : j_F 36 21 = some (.goto 4, 3, 25, 0, .null, .int) := by decide +kernel
theorem jF_36_24 : j_F 36 24 = some (.iconst (-1), 1, 0, 0, .null, .int) := by decide +kernel
theorem jF_36_25 : j_F 36 25 = some (.istore_n 2, 1, 0, 0, .null, .int) := by decide +kernel
theorem jF_36_26 : j_F 36 26 = some (.iload_n 2, 1, 0, 0, .null, .int) := by decide +kernel
theorem jF_36_27 : j_F 36 27 = some (.iconst (-1), 1, 0, 0, .null, .int) := by decide +kernel
theorem jF_36_28 : j_F 36 28 = some (.if_icmp .eq 9, 3, 37, 0, .null, .int) := by decide +kernel
theorem jF_36_31 : j_F 36 31 = some (.iload_n 2, 1, 0, 0, .null, .int) := by decide +kernel
theorem jF_36_32 : j_F 36 32 = some (.bipush 8, 2, 0, 0, .null, .int) := by decide +kernel
theorem jF_36_34 : j_F 36 34 = some (.if_icmp .le 21, 3, 55, 0, .null, .int) := by decide +kernel
theorem jF_36_37 : j_F 36 37 = some (.aload_n 0, 1, 0, 0, .null, .int) := by decide +kernel
theorem jF_36_38 : j_F 36 38 = some (.getfield 9, 3, 9, 0, .null, (.object "HundredWords$Tape")) := by decide +kernel
theorem jF_36_41 : j_F 36 41 = some (.iconst 1, 1, 0, 0, .null, .int) := by decide +kernel
theorem jF_36_42 : j_F 36 42 = some (.aload_n 0, 1, 0, 0, .null, .int) := by decide +kernel
theorem jF_36_43 : j_F 36 43 = some (.getfield 9, 3, 9, 0, .null, (.object "HundredWords$Tape")) := by decide +kernel
theorem jF_36_46 : j_F 36 46 = some (.getfield 51, 3, 6, 2, .null, .int) := by decide +kernel
theorem jF_36_49 : j_F 36 49 = some (.invokevirtual 55, 3, 42, 3, .null, .int) := by decide +kernel
theorem jF_36_52 : j_F 36 52 = some (.pop, 1, 0, 0, .null, .int) := by decide +kernel
theorem jF_36_53 : j_F 36 53 = some (.iconst (-1), 1, 0, 0, .null, .int) := by decide +kernel
theorem jF_36_54 : j_F 36 54 = some (.ireturn, 1, 0, 0, .null, .int) := by decide +kernel
theorem jF_36_55 : j_F 36 55 = some (.aload_n 1, 1, 0, 0, .null, .int) := by decide +kernel
theorem jF_36_56 : j_F 36 56 = some (.iload_n 2, 1, 0, 0, .null, .int) := by decide +kernel
theorem jF_36_57 : j_F 36 57 = some (.invokevirtual 70, 3, 43, 2, .null, .int) := by decide +kernel
theorem jF_36_60 : j_F 36 60 = some (.ifCond .eq 21, 3, 81, 0, .null, .int) := by decide +kernel
theorem jF_36_63 : j_F 36 63 = some (.aload_n 0, 1, 0, 0, .null, .int) := by decide +kernel
theorem jF_36_64 : j_F 36 64 = some (.getfield 9, 3, 9, 0, .null, (.object "HundredWords$Tape")) := by decide +kernel
theorem jF_36_67 : j_F 36 67 = some (.iconst 5, 1, 0, 0, .null, .int) := by decide +kernel
theorem jF_36_68 : j_F 36 68 = some (.aload_n 0, 1, 0, 0, .null, .int) := by decide +kernel
theorem jF_36_69 : j_F 36 69 = some (.getfield 9, 3, 9, 0, .null, (.object "HundredWords$Tape")) := by decide +kernel
theorem jF_36_72 : j_F 36 72 = some (.getfield 51, 3, 6, 2, .null, .int) := by decide +kernel
theorem jF_36_75 : j_F 36 75 = some (.invokevirtual 55, 3, 42, 3, .null, .int) := by decide +kernel
theorem jF_36_78 : j_F 36 78 = some (.pop, 1, 0, 0, .null, .int) := by decide +kernel
theorem jF_36_79 : j_F 36 79 = some (.iconst (-1), 1, 0, 0, .null, .int) := by decide +kernel
theorem jF_36_80 : j_F 36 80 = some (.ireturn, 1, 0, 0, .null, .int) := by decide +kernel
theorem jF_36_81 : j_F 36 81 = some (.aload_n 0, 1, 0, 0, .null, .int) := by decide +kernel
theorem jF_36_82 : j_F 36 82 = some (.getfield 9, 3, 9, 0, .null, (.object "HundredWords$Tape")) := by decide +kernel
theorem jF_36_85 : j_F 36 85 = some (.invokevirtual 73, 3, 45, 1, .null, .int) := by decide +kernel
theorem jF_36_88 : j_F 36 88 = some (.iload_n 2, 1, 0, 0, .null, .int) := by decide +kernel
theorem jF_36_89 : j_F 36 89 = some (.ireturn, 1, 0, 0, .null, .int) := by decide +kernel
theorem jF_46_0 : j_F 46 0 = some (.iload_n 2, 1, 0, 0, .null, .int) := by decide +kernel
theorem jF_46_1 : j_F 46 1 = some (.tableswitch 152 3 8 #[39, 45, 51, 57, 94, 123], 39, 0, 0, .null, .int) := by decide +kernel
theorem jF_46_40 : j_F 46 40 = some (.aload_n 0, 1, 0, 0, .null, .int) := by decide +kernel
theorem jF_46_41 : j_F 46 41 = some (.aload_n 1, 1, 0, 0, .null, .int) := by decide +kernel
theorem jF_46_42 : j_F 46 42 = some (.invokevirtual 76, 3, 47, 2, .null, .int) := by decide +kernel
theorem jF_46_45 : j_F 46 45 = some (.ireturn, 1, 0, 0, .null, .boolean) := by decide +kernel
theorem jF_46_46 : j_F 46 46 = some (.aload_n 0, 1, 0, 0, .null, .int) := by decide +kernel
theorem jF_46_47 : j_F 46 47 = some (.aload_n 1, 1, 0, 0, .null, .int) := by decide +kernel
theorem jF_46_48 : j_F 46 48 = some (.invokevirtual 80, 3, 53, 2, .null, .int) := by decide +kernel
theorem jF_46_51 : j_F 46 51 = some (.ireturn, 1, 0, 0, .null, .boolean) := by decide +kernel
theorem jF_46_52 : j_F 46 52 = some (.aload_n 0, 1, 0, 0, .null, .int) := by decide +kernel
theorem jF_46_53 : j_F 46 53 = some (.aload_n 1, 1, 0, 0, .null, .int) := by decide +kernel
theorem jF_46_54 : j_F 46 54 = some (.invokevirtual 83, 3, 55, 2, .null, .int) := by decide +kernel
theorem jF_46_57 : j_F 46 57 = some (.ireturn, 1, 0, 0, .null, .boolean) := by decide +kernel
theorem jF_46_58 : j_F 46 58 = some (.aload_n 0, 1, 0, 0, .null, .int) := by decide +kernel
theorem jF_46_59 : j_F 46 59 = some (.aload_n 1, 1, 0, 0, .null, .int) := by decide +kernel
theorem jF_46_60 : j_F 46 60 = some (.invokevirtual 86, 3, 58, 2, .null, .int) := by decide +kernel
theorem jF_46_63 : j_F 46 63 = some (.ifCond .eq 30, 3, 93, 0, .null, .int) := by decide +kernel
theorem jF_46_66 : j_F 46 66 = some (.aload_n 0, 1, 0, 0, .null, .int) := by decide +kernel
theorem jF_46_67 : j_F 46 67 = some (.aload_n 1, 1, 0, 0, .null, .int) := by decide +kernel
theorem jF_46_68 : j_F 46 68 = some (.aload_n 1, 1, 0, 0, .null, .int) := by decide +kernel
theorem jF_46_69 : j_F 46 69 = some (.getfield 89, 3, 8, 6, .null, (.object "HundredWords$Told")) := by decide +kernel
theorem jF_46_72 : j_F 46 72 = some (.invokevirtual 93, 3, 60, 3, .null, .int) := by decide +kernel
theorem jF_46_75 : j_F 46 75 = some (.ifCond .eq 18, 3, 93, 0, .null, .int) := by decide +kernel
theorem jF_46_78 : j_F 46 78 = some (.aload_n 0, 1, 0, 0, .null, .int) := by decide +kernel
theorem jF_46_79 : j_F 46 79 = some (.aload_n 1, 1, 0, 0, .null, .int) := by decide +kernel
theorem jF_46_80 : j_F 46 80 = some (.getfield 89, 3, 8, 6, .null, (.object "HundredWords$Told")) := by decide +kernel
theorem jF_46_83 : j_F 46 83 = some (.invokevirtual 97, 3, 64, 2, .null, .int) := by decide +kernel
theorem jF_46_86 : j_F 46 86 = some (.ifCond .eq 7, 3, 93, 0, .null, .int) := by decide +kernel
theorem jF_46_89 : j_F 46 89 = some (.iconst 1, 1, 0, 0, .null, .int) := by decide +kernel
theorem jF_46_90 : j_F 46 90 = some (.goto 4, 3, 94, 0, .null, .int) := by decide +kernel
theorem jF_46_93 : j_F 46 93 = some (.iconst 0, 1, 0, 0, .null, .int) := by decide +kernel
theorem jF_46_94 : j_F 46 94 = some (.ireturn, 1, 0, 0, .null, .boolean) := by decide +kernel
theorem jF_46_95 : j_F 46 95 = some (.aload_n 0, 1, 0, 0, .null, .int) := by decide +kernel
theorem jF_46_96 : j_F 46 96 = some (.aload_n 1, 1, 0, 0, .null, .int) := by decide +kernel
theorem jF_46_97 : j_F 46 97 = some (.aload_n 1, 1, 0, 0, .null, .int) := by decide +kernel
theorem jF_46_98 : j_F 46 98 = some (.getfield 101, 3, 8, 7, .null, (.object "HundredWords$Told")) := by decide +kernel
theorem jF_46_101 : j_F 46 101 = some (.invokevirtual 93, 3, 60, 3, .null, .int) := by decide +kernel
theorem jF_46_104 : j_F 46 104 = some (.ifCond .eq 18, 3, 122, 0, .null, .int) := by decide +kernel
theorem jF_46_107 : j_F 46 107 = some (.aload_n 1, 1, 0, 0, .null, .int) := by decide +kernel
theorem jF_46_108 : j_F 46 108 = some (.getfield 101, 3, 8, 7, .null, (.object "HundredWords$Told")) := by decide +kernel
theorem jF_46_111 : j_F 46 111 = some (.iconst 0, 1, 0, 0, .null, .int) := by decide +kernel
theorem jF_46_112 : j_F 46 112 = some (.invokevirtual 104, 3, 65, 2, .null, .int) := by decide +kernel
theorem jF_46_115 : j_F 46 115 = some (.ifCond .eq 7, 3, 122, 0, .null, .int) := by decide +kernel
theorem jF_46_118 : j_F 46 118 = some (.iconst 1, 1, 0, 0, .null, .int) := by decide +kernel
theorem jF_46_119 : j_F 46 119 = some (.goto 4, 3, 123, 0, .null, .int) := by decide +kernel
theorem jF_46_122 : j_F 46 122 = some (.iconst 0, 1, 0, 0, .null, .int) := by decide +kernel
theorem jF_46_123 : j_F 46 123 = some (.ireturn, 1, 0, 0, .null, .boolean) := by decide +kernel
theorem jF_46_124 : j_F 46 124 = some (.aload_n 0, 1, 0, 0, .null, .int) := by decide +kernel
theorem jF_46_125 : j_F 46 125 = some (.aload_n 1, 1, 0, 0, .null, .int) := by decide +kernel
theorem jF_46_126 : j_F 46 126 = some (.aload_n 1, 1, 0, 0, .null, .int) := by decide +kernel
theorem jF_46_127 : j_F 46 127 = some (.getfield 109, 3, 8, 8, .null, (.object "HundredWords$Told")) := by decide +kernel
theorem jF_46_130 : j_F 46 130 = some (.invokevirtual 93, 3, 60, 3, .null, .int) := by decide +kernel
theorem jF_46_133 : j_F 46 133 = some (.ifCond .eq 18, 3, 151, 0, .null, .int) := by decide +kernel
theorem jF_46_136 : j_F 46 136 = some (.aload_n 1, 1, 0, 0, .null, .int) := by decide +kernel
theorem jF_46_137 : j_F 46 137 = some (.getfield 109, 3, 8, 8, .null, (.object "HundredWords$Told")) := by decide +kernel
theorem jF_46_140 : j_F 46 140 = some (.iconst 0, 1, 0, 0, .null, .int) := by decide +kernel
theorem jF_46_141 : j_F 46 141 = some (.invokevirtual 104, 3, 65, 2, .null, .int) := by decide +kernel
theorem jF_46_144 : j_F 46 144 = some (.ifCond .eq 7, 3, 151, 0, .null, .int) := by decide +kernel
theorem jF_46_147 : j_F 46 147 = some (.iconst 1, 1, 0, 0, .null, .int) := by decide +kernel
theorem jF_46_148 : j_F 46 148 = some (.goto 4, 3, 152, 0, .null, .int) := by decide +kernel
theorem jF_46_151 : j_F 46 151 = some (.iconst 0, 1, 0, 0, .null, .int) := by decide +kernel
theorem jF_46_152 : j_F 46 152 = some (.ireturn, 1, 0, 0, .null, .boolean) := by decide +kernel
theorem jF_46_153 : j_F 46 153 = some (.aload_n 0, 1, 0, 0, .null, .int) := by decide +kernel
theorem jF_46_154 : j_F 46 154 = some (.aload_n 1, 1, 0, 0, .null, .int) := by decide +kernel
theorem jF_46_155 : j_F 46 155 = some (.iload_n 2, 1, 0, 0, .null, .int) := by decide +kernel
theorem jF_46_156 : j_F 46 156 = some (.invokevirtual 112, 3, 66, 3, .null, .int) := by decide +kernel
theorem jF_46_159 : j_F 46 159 = some (.ireturn, 1, 0, 0, .null, .boolean) := by decide +kernel
theorem jF_47_0 : j_F 47 0 = some (.aload_n 0, 1, 0, 0, .null, .int) := by decide +kernel
theorem jF_47_1 : j_F 47 1 = some (.aload_n 1, 1, 0, 0, .null, .int) := by decide +kernel
theorem jF_47_2 : j_F 47 2 = some (.invokevirtual 129, 3, 48, 2, .null, .int) := by decide +kernel
theorem jF_47_5 : j_F 47 5 = some (.ifCond .ne 5, 3, 10, 0, .null, .int) := by decide +kernel
theorem jF_47_8 : j_F 47 8 = some (.iconst 0, 1, 0, 0, .null, .int) := by decide +kernel
theorem jF_47_9 : j_F 47 9 = some (.ireturn, 1, 0, 0, .null, .boolean) := by decide +kernel
theorem jF_47_10 : j_F 47 10 = some (.aload_n 0, 1, 0, 0, .null, .int) := by decide +kernel
theorem jF_47_11 : j_F 47 11 = some (.getfield 9, 3, 9, 0, .null, (.object "HundredWords$Tape")) := by decide +kernel
theorem jF_47_14 : j_F 47 14 = some (.getfield 119, 3, 6, 7, .null, .int) := by decide +kernel
theorem jF_47_17 : j_F 47 17 = some (.istore_n 2, 1, 0, 0, .null, .int) := by decide +kernel
theorem jF_47_18 : j_F 47 18 = some (.aload_n 0, 1, 0, 0, .null, .int) := by decide +kernel
theorem jF_47_19 : j_F 47 19 = some (.getfield 9, 3, 9, 0, .null, (.object "HundredWords$Tape")) := by decide +kernel
theorem jF_47_22 : j_F 47 22 = some (.aload_n 0, 1, 0, 0, .null, .int) := by decide +kernel
theorem jF_47_23 : j_F 47 23 = some (.getfield 23, 3, 9, 1, .null, (.array .int)) := by decide +kernel
theorem jF_47_26 : j_F 47 26 = some (.invokevirtual 115, 3, 49, 2, .null, .int) := by decide +kernel
theorem jF_47_29 : j_F 47 29 = some (.ifCond .ne 5, 3, 34, 0, .null, .int) := by decide +kernel
theorem jF_47_32 : j_F 47 32 = some (.iconst 0, 1, 0, 0, .null, .int) := by decide +kernel
theorem jF_47_33 : j_F 47 33 = some (.ireturn, 1, 0, 0, .null, .boolean) := by decide +kernel
theorem jF_47_34 : j_F 47 34 = some (.aload_n 1, 1, 0, 0, .null, .int) := by decide +kernel
theorem jF_47_35 : j_F 47 35 = some (.aload_n 0, 1, 0, 0, .null, .int) := by decide +kernel
theorem jF_47_36 : j_F 47 36 = some (.getfield 9, 3, 9, 0, .null, (.object "HundredWords$Tape")) := by decide +kernel
theorem jF_47_39 : j_F 47 39 = some (.getfield 119, 3, 6, 7, .null, .int) := by decide +kernel
theorem jF_47_42 : j_F 47 42 = some (.invokevirtual 122, 3, 50, 2, .null, .int) := by decide +kernel
theorem jF_47_45 : j_F 47 45 = some (.istore_n 3, 1, 0, 0, .null, .int) := by decide +kernel
theorem jF_47_46 : j_F 47 46 = some (.iload_n 3, 1, 0, 0, .null, .int) := by decide +kernel
theorem jF_47_47 : j_F 47 47 = some (.iconst (-1), 1, 0, 0, .null, .int) := by decide +kernel
theorem jF_47_48 : j_F 47 48 = some (.if_icmp .eq 11, 3, 59, 0, .null, .int) := by decide +kernel
theorem jF_47_51 : j_F 47 51 = some (.aload_n 1, 1, 0, 0, .null, .int) := by decide +kernel
theorem jF_47_52 : j_F 47 52 = some (.iload_n 3, 1, 0, 0, .null, .int) := by decide +kernel
theorem jF_47_53 : j_F 47 53 = some (.invokevirtual 136, 3, 51, 2, .null, .int) := by decide +kernel
theorem jF_47_56 : j_F 47 56 = some (.ifCond .eq 19, 3, 75, 0, .null, .int) := by decide +kernel
theorem jF_47_59 : j_F 47 59 = some (.aload_n 0, 1, 0, 0, .null, .int) := by decide +kernel
theorem jF_47_60 : j_F 47 60 = some (.getfield 9, 3, 9, 0, .null, (.object "HundredWords$Tape")) := by decide +kernel
theorem jF_47_63 : j_F 47 63 = some (.iconst 3, 1, 0, 0, .null, .int) := by decide +kernel
theorem jF_47_64 : j_F 47 64 = some (.aload_n 0, 1, 0, 0, .null, .int) := by decide +kernel
theorem jF_47_65 : j_F 47 65 = some (.getfield 9, 3, 9, 0, .null, (.object "HundredWords$Tape")) := by decide +kernel
theorem jF_47_68 : j_F 47 68 = some (.getfield 126, 3, 6, 5, .null, .int) := by decide +kernel
theorem jF_47_71 : j_F 47 71 = some (.invokevirtual 55, 3, 42, 3, .null, .int) := by decide +kernel
theorem jF_47_74 : j_F 47 74 = some (.ireturn, 1, 0, 0, .null, .boolean) := by decide +kernel
theorem jF_47_75 : j_F 47 75 = some (.aload_n 1, 1, 0, 0, .null, .int) := by decide +kernel
theorem jF_47_76 : j_F 47 76 = some (.iload_n 2, 1, 0, 0, .null, .int) := by decide +kernel
theorem jF_47_77 : j_F 47 77 = some (.iload_n 3, 1, 0, 0, .null, .int) := by decide +kernel
theorem jF_47_78 : j_F 47 78 = some (.invokevirtual 139, 3, 52, 3, .null, .int) := by decide +kernel
theorem jF_47_81 : j_F 47 81 = some (.iconst 1, 1, 0, 0, .null, .int) := by decide +kernel
theorem jF_47_82 : j_F 47 82 = some (.ireturn, 1, 0, 0, .null, .boolean) := by decide +kernel
theorem jF_48_0 : j_F 48 0 = some (.aload_n 0, 1, 0, 0, .null, .int) := by decide +kernel
theorem jF_48_1 : j_F 48 1 = some (.getfield 9, 3, 9, 0, .null, (.object "HundredWords$Tape")) := by decide +kernel
theorem jF_48_4 : j_F 48 4 = some (.aload_n 0, 1, 0, 0, .null, .int) := by decide +kernel
theorem jF_48_5 : j_F 48 5 = some (.getfield 23, 3, 9, 1, .null, (.array .int)) := by decide +kernel
theorem jF_48_8 : j_F 48 8 = some (.invokevirtual 115, 3, 49, 2, .null, .int) := by decide +kernel
theorem jF_48_11 : j_F 48 11 = some (.ifCond .ne 5, 3, 16, 0, .null, .int) := by decide +kernel
theorem jF_48_14 : j_F 48 14 = some (.iconst 0, 1, 0, 0, .null, .int) := by decide +kernel
theorem jF_48_15 : j_F 48 15 = some (.ireturn, 1, 0, 0, .null, .boolean) := by decide +kernel
theorem jF_48_16 : j_F 48 16 = some (.aload_n 1, 1, 0, 0, .null, .int) := by decide +kernel
theorem jF_48_17 : j_F 48 17 = some (.aload_n 0, 1, 0, 0, .null, .int) := by decide +kernel
theorem jF_48_18 : j_F 48 18 = some (.getfield 9, 3, 9, 0, .null, (.object "HundredWords$Tape")) := by decide +kernel
theorem jF_48_21 : j_F 48 21 = some (.getfield 119, 3, 6, 7, .null, .int) := by decide +kernel
theorem jF_48_24 : j_F 48 24 = some (.invokevirtual 122, 3, 50, 2, .null, .int) := by decide +kernel
theorem jF_48_27 : j_F 48 27 = some (.iconst (-1), 1, 0, 0, .null, .int) := by decide +kernel
theorem jF_48_28 : j_F 48 28 = some (.if_icmp .eq 21, 3, 49, 0, .null, .int) := by decide +kernel
theorem jF_48_31 : j_F 48 31 = some (.aload_n 0, 1, 0, 0, .null, .int) := by decide +kernel
theorem jF_48_32 : j_F 48 32 = some (.getfield 9, 3, 9, 0, .null, (.object "HundredWords$Tape")) := by decide +kernel
theorem jF_48_35 : j_F 48 35 = some (.iconst 3, 1, 0, 0, .null, .int) := by decide +kernel
theorem jF_48_36 : j_F 48 36 = some (.aload_n 0, 1, 0, 0, .null, .int) := by decide +kernel
theorem jF_48_37 : j_F 48 37 = some (.getfield 9, 3, 9, 0, .null, (.object "HundredWords$Tape")) := by decide +kernel
theorem jF_48_40 : j_F 48 40 = some (.getfield 126, 3, 6, 5, .null, .int) := by decide +kernel
theorem jF_48_43 : j_F 48 43 = some (.invokevirtual 55, 3, 42, 3, .null, .int) := by decide +kernel
theorem jF_48_46 : j_F 48 46 = some (.ifCond .eq 7, 3, 53, 0, .null, .int) := by decide +kernel
theorem jF_48_49 : j_F 48 49 = some (.iconst 1, 1, 0, 0, .null, .int) := by decide +kernel
theorem jF_48_50 : j_F 48 50 = some (.goto 4, 3, 54, 0, .null, .int) := by decide +kernel
theorem jF_48_53 : j_F 48 53 = some (.iconst 0, 1, 0, 0, .null, .int) := by decide +kernel
theorem jF_48_54 : j_F 48 54 = some (.ireturn, 1, 0, 0, .null, .boolean) := by decide +kernel
theorem jF_53_0 : j_F 53 0 = some (.aload_n 0, 1, 0, 0, .null, .int) := by decide +kernel
theorem jF_53_1 : j_F 53 1 = some (.getfield 9, 3, 9, 0, .null, (.object "HundredWords$Tape")) := by decide +kernel
theorem jF_53_4 : j_F 53 4 = some (.iconst 1, 1, 0, 0, .null, .int) := by decide +kernel
theorem jF_53_5 : j_F 53 5 = some (.bipush 40, 2, 0, 0, .null, .int) := by decide +kernel
theorem jF_53_7 : j_F 53 7 = some (.invokevirtual 142, 3, 54, 3, .null, .int) := by decide +kernel
theorem jF_53_10 : j_F 53 10 = some (.ifCond .ne 5, 3, 15, 0, .null, .int) := by decide +kernel
theorem jF_53_13 : j_F 53 13 = some (.iconst 0, 1, 0, 0, .null, .int) := by decide +kernel
theorem jF_53_14 : j_F 53 14 = some (.ireturn, 1, 0, 0, .null, .boolean) := by decide +kernel
theorem jF_53_15 : j_F 53 15 = some (.aload_n 1, 1, 0, 0, .null, .int) := by decide +kernel
theorem jF_53_16 : j_F 53 16 = some (.aload_n 0, 1, 0, 0, .null, .int) := by decide +kernel
theorem jF_53_17 : j_F 53 17 = some (.getfield 9, 3, 9, 0, .null, (.object "HundredWords$Tape")) := by decide +kernel
theorem jF_53_20 : j_F 53 20 = some (.getfield 145, 3, 6, 8, .null, .int) := by decide +kernel
theorem jF_53_23 : j_F 53 23 = some (.putfield 148, 3, 8, 10, .null, .int) := by decide +kernel
theorem jF_53_26 : j_F 53 26 = some (.iconst 1, 1, 0, 0, .null, .int) := by decide +kernel
theorem jF_53_27 : j_F 53 27 = some (.ireturn, 1, 0, 0, .null, .boolean) := by decide +kernel
theorem jF_55_0 : j_F 55 0 = some (.aload_n 0, 1, 0, 0, .null, .int) := by decide +kernel
theorem jF_55_1 : j_F 55 1 = some (.aload_n 1, 1, 0, 0, .null, .int) := by decide +kernel
theorem jF_55_2 : j_F 55 2 = some (.invokevirtual 129, 3, 48, 2, .null, .int) := by decide +kernel
theorem jF_55_5 : j_F 55 5 = some (.ifCond .ne 5, 3, 10, 0, .null, .int) := by decide +kernel
theorem jF_55_8 : j_F 55 8 = some (.iconst 0, 1, 0, 0, .null, .int) := by decide +kernel
theorem jF_55_9 : j_F 55 9 = some (.ireturn, 1, 0, 0, .null, .boolean) := by decide +kernel
theorem jF_55_10 : j_F 55 10 = some (.aload_n 0, 1, 0, 0, .null, .int) := by decide +kernel
theorem jF_55_11 : j_F 55 11 = some (.getfield 9, 3, 9, 0, .null, (.object "HundredWords$Tape")) := by decide +kernel
theorem jF_55_14 : j_F 55 14 = some (.getfield 119, 3, 6, 7, .null, .int) := by decide +kernel
theorem jF_55_17 : j_F 55 17 = some (.istore_n 2, 1, 0, 0, .null, .int) := by decide +kernel
theorem jF_55_18 : j_F 55 18 = some (.aload_n 0, 1, 0, 0, .null, .int) := by decide +kernel
theorem jF_55_19 : j_F 55 19 = some (.getfield 9, 3, 9, 0, .null, (.object "HundredWords$Tape")) := by decide +kernel
theorem jF_55_22 : j_F 55 22 = some (.aload_n 0, 1, 0, 0, .null, .int) := by decide +kernel
theorem jF_55_23 : j_F 55 23 = some (.getfield 23, 3, 9, 1, .null, (.array .int)) := by decide +kernel
theorem jF_55_26 : j_F 55 26 = some (.bipush 9, 2, 0, 0, .null, .int) := by decide +kernel
theorem jF_55_28 : j_F 55 28 = some (.invokevirtual 151, 3, 56, 3, .null, .int) := by decide +kernel
theorem jF_55_31 : j_F 55 31 = some (.ifCond .eq 16, 3, 47, 0, .null, .int) := by decide +kernel
theorem jF_55_34 : j_F 55 34 = some (.aload_n 0, 1, 0, 0, .null, .int) := by decide +kernel
theorem jF_55_35 : j_F 55 35 = some (.getfield 9, 3, 9, 0, .null, (.object "HundredWords$Tape")) := by decide +kernel
theorem jF_55_38 : j_F 55 38 = some (.iconst 1, 1, 0, 0, .null, .int) := by decide +kernel
theorem jF_55_39 : j_F 55 39 = some (.bipush 9, 2, 0, 0, .null, .int) := by decide +kernel
theorem jF_55_41 : j_F 55 41 = some (.invokevirtual 142, 3, 54, 3, .null, .int) := by decide +kernel
theorem jF_55_44 : j_F 55 44 = some (.ifCond .ne 5, 3, 49, 0, .null, .int) := by decide +kernel
theorem jF_55_47 : j_F 55 47 = some (.iconst 0, 1, 0, 0, .null, .int) := by decide +kernel
theorem jF_55_48 : j_F 55 48 = some (.ireturn, 1, 0, 0, .null, .boolean) := by decide +kernel
theorem jF_55_49 : j_F 55 49 = some (.aload_n 1, 1, 0, 0, .null, .int) := by decide +kernel
theorem jF_55_50 : j_F 55 50 = some (.iload_n 2, 1, 0, 0, .null, .int) := by decide +kernel
theorem jF_55_51 : j_F 55 51 = some (.aload_n 0, 1, 0, 0, .null, .int) := by decide +kernel
theorem jF_55_52 : j_F 55 52 = some (.getfield 9, 3, 9, 0, .null, (.object "HundredWords$Tape")) := by decide +kernel
theorem jF_55_55 : j_F 55 55 = some (.getfield 145, 3, 6, 8, .null, .int) := by decide +kernel
theorem jF_55_58 : j_F 55 58 = some (.invokevirtual 155, 3, 57, 3, .null, .int) := by decide +kernel
theorem jF_55_61 : j_F 55 61 = some (.iconst 1, 1, 0, 0, .null, .int) := by decide +kernel
theorem jF_55_62 : j_F 55 62 = some (.ireturn, 1, 0, 0, .null, .boolean) := by decide +kernel
theorem jF_58_0 : j_F 58 0 = some (.aload_n 0, 1, 0, 0, .null, .int) := by decide +kernel
theorem jF_58_1 : j_F 58 1 = some (.getfield 9, 3, 9, 0, .null, (.object "HundredWords$Tape")) := by decide +kernel
theorem jF_58_4 : j_F 58 4 = some (.aload_n 0, 1, 0, 0, .null, .int) := by decide +kernel
theorem jF_58_5 : j_F 58 5 = some (.getfield 23, 3, 9, 1, .null, (.array .int)) := by decide +kernel
theorem jF_58_8 : j_F 58 8 = some (.invokevirtual 115, 3, 49, 2, .null, .int) := by decide +kernel
theorem jF_58_11 : j_F 58 11 = some (.ifCond .ne 5, 3, 16, 0, .null, .int) := by decide +kernel
theorem jF_58_14 : j_F 58 14 = some (.iconst 0, 1, 0, 0, .null, .int) := by decide +kernel
theorem jF_58_15 : j_F 58 15 = some (.ireturn, 1, 0, 0, .null, .boolean) := by decide +kernel
theorem jF_58_16 : j_F 58 16 = some (.aload_n 1, 1, 0, 0, .null, .int) := by decide +kernel
theorem jF_58_17 : j_F 58 17 = some (.aload_n 0, 1, 0, 0, .null, .int) := by decide +kernel
theorem jF_58_18 : j_F 58 18 = some (.getfield 9, 3, 9, 0, .null, (.object "HundredWords$Tape")) := by decide +kernel
theorem jF_58_21 : j_F 58 21 = some (.getfield 119, 3, 6, 7, .null, .int) := by decide +kernel
theorem jF_58_24 : j_F 58 24 = some (.invokevirtual 122, 3, 50, 2, .null, .int) := by decide +kernel
theorem jF_58_27 : j_F 58 27 = some (.istore_n 2, 1, 0, 0, .null, .int) := by decide +kernel
theorem jF_58_28 : j_F 58 28 = some (.aload_n 1, 1, 0, 0, .null, .int) := by decide +kernel
theorem jF_58_29 : j_F 58 29 = some (.iload_n 2, 1, 0, 0, .null, .int) := by decide +kernel
theorem jF_58_30 : j_F 58 30 = some (.invokevirtual 136, 3, 51, 2, .null, .int) := by decide +kernel
theorem jF_58_33 : j_F 58 33 = some (.ifCond .ne 19, 3, 52, 0, .null, .int) := by decide +kernel
theorem jF_58_36 : j_F 58 36 = some (.aload_n 0, 1, 0, 0, .null, .int) := by decide +kernel
theorem jF_58_37 : j_F 58 37 = some (.getfield 9, 3, 9, 0, .null, (.object "HundredWords$Tape")) := by decide +kernel
theorem jF_58_40 : j_F 58 40 = some (.iconst 3, 1, 0, 0, .null, .int) := by decide +kernel
theorem jF_58_41 : j_F 58 41 = some (.aload_n 0, 1, 0, 0, .null, .int) := by decide +kernel
theorem jF_58_42 : j_F 58 42 = some (.getfield 9, 3, 9, 0, .null, (.object "HundredWords$Tape")) := by decide +kernel
theorem jF_58_45 : j_F 58 45 = some (.getfield 126, 3, 6, 5, .null, .int) := by decide +kernel
theorem jF_58_48 : j_F 58 48 = some (.invokevirtual 55, 3, 42, 3, .null, .int) := by decide +kernel
theorem jF_58_51 : j_F 58 51 = some (.ireturn, 1, 0, 0, .null, .boolean) := by decide +kernel
theorem jF_58_52 : j_F 58 52 = some (.aload_n 1, 1, 0, 0, .null, .int) := by decide +kernel
theorem jF_58_53 : j_F 58 53 = some (.getfield 89, 3, 8, 6, .null, (.object "HundredWords$Told")) := by decide +kernel
theorem jF_58_56 : j_F 58 56 = some (.iload_n 2, 1, 0, 0, .null, .int) := by decide +kernel
theorem jF_58_57 : j_F 58 57 = some (.bipush 20, 2, 0, 0, .null, .int) := by decide +kernel
theorem jF_58_59 : j_F 58 59 = some (.isub, 1, 0, 0, .null, .int) := by decide +kernel
theorem jF_58_60 : j_F 58 60 = some (.invokevirtual 158, 3, 59, 2, .null, .int) := by decide +kernel
theorem jF_58_63 : j_F 58 63 = some (.iconst 1, 1, 0, 0, .null, .int) := by decide +kernel
theorem jF_58_64 : j_F 58 64 = some (.ireturn, 1, 0, 0, .null, .boolean) := by decide +kernel
theorem jF_60_0 : j_F 60 0 = some (.aload_n 0, 1, 0, 0, .null, .int) := by decide +kernel
theorem jF_60_1 : j_F 60 1 = some (.getfield 9, 3, 9, 0, .null, (.object "HundredWords$Tape")) := by decide +kernel
theorem jF_60_4 : j_F 60 4 = some (.invokevirtual 62, 3, 37, 1, .null, .int) := by decide +kernel
theorem jF_60_7 : j_F 60 7 = some (.ifCond .eq 17, 3, 24, 0, .null, .int) := by decide +kernel
theorem jF_60_10 : j_F 60 10 = some (.aload_n 0, 1, 0, 0, .null, .int) := by decide +kernel
theorem jF_60_11 : j_F 60 11 = some (.getfield 9, 3, 9, 0, .null, (.object "HundredWords$Tape")) := by decide +kernel
theorem jF_60_14 : j_F 60 14 = some (.aload_n 0, 1, 0, 0, .null, .int) := by decide +kernel
theorem jF_60_15 : j_F 60 15 = some (.getfield 23, 3, 9, 1, .null, (.array .int)) := by decide +kernel
theorem jF_60_18 : j_F 60 18 = some (.invokevirtual 66, 3, 41, 2, .null, .int) := by decide +kernel
theorem jF_60_21 : j_F 60 21 = some (.goto 4, 3, 25, 0, .null, .int) := by decide +kernel
theorem jF_60_24 : j_F 60 24 = some (.iconst (-1), 1, 0, 0, .null, .int) := by decide +kernel
theorem jF_60_25 : j_F 60 25 = some (.istore_n 3, 1, 0, 0, .null, .int) := by decide +kernel
theorem jF_60_26 : j_F 60 26 = some (.iload_n 3, 1, 0, 0, .null, .int) := by decide +kernel
theorem jF_60_27 : j_F 60 27 = some (.bipush 11, 2, 0, 0, .null, .int) := by decide +kernel
theorem jF_60_29 : j_F 60 29 = some (.if_icmp .eq 25, 3, 54, 0, .null, .int) := by decide +kernel
theorem jF_60_32 : j_F 60 32 = some (.iload_n 3, 1, 0, 0, .null, .int) := by decide +kernel
theorem jF_60_33 : j_F 60 33 = some (.bipush 12, 2, 0, 0, .null, .int) := by decide +kernel
theorem jF_60_35 : j_F 60 35 = some (.if_icmp .eq 19, 3, 54, 0, .null, .int) := by decide +kernel
theorem jF_60_38 : j_F 60 38 = some (.aload_n 0, 1, 0, 0, .null, .int) := by decide +kernel
theorem jF_60_39 : j_F 60 39 = some (.getfield 9, 3, 9, 0, .null, (.object "HundredWords$Tape")) := by decide +kernel
theorem jF_60_42 : j_F 60 42 = some (.iconst 1, 1, 0, 0, .null, .int) := by decide +kernel
theorem jF_60_43 : j_F 60 43 = some (.aload_n 0, 1, 0, 0, .null, .int) := by decide +kernel
theorem jF_60_44 : j_F 60 44 = some (.getfield 9, 3, 9, 0, .null, (.object "HundredWords$Tape")) := by decide +kernel
theorem jF_60_47 : j_F 60 47 = some (.getfield 51, 3, 6, 2, .null, .int) := by decide +kernel
theorem jF_60_50 : j_F 60 50 = some (.invokevirtual 55, 3, 42, 3, .null, .int) := by decide +kernel
theorem jF_60_53 : j_F 60 53 = some (.ireturn, 1, 0, 0, .null, .boolean) := by decide +kernel
theorem jF_60_54 : j_F 60 54 = some (.aload_n 0, 1, 0, 0, .null, .int) := by decide +kernel
theorem jF_60_55 : j_F 60 55 = some (.getfield 9, 3, 9, 0, .null, (.object "HundredWords$Tape")) := by decide +kernel
theorem jF_60_58 : j_F 60 58 = some (.invokevirtual 73, 3, 45, 1, .null, .int) := by decide +kernel
theorem jF_60_61 : j_F 60 61 = some (.aload_n 2, 1, 0, 0, .null, .int) := by decide +kernel
theorem jF_60_62 : j_F 60 62 = some (.iload_n 3, 1, 0, 0, .null, .int) := by decide +kernel
theorem jF_60_63 : j_F 60 63 = some (.bipush 11, 2, 0, 0, .null, .int) := by decide +kernel
theorem jF_60_65 : j_F 60 65 = some (.if_icmp .ne 7, 3, 72, 0, .null, .int) := by decide +kernel
theorem jF_60_68 : j_F 60 68 = some (.iconst 1, 1, 0, 0, .null, .int) := by decide +kernel
theorem jF_60_69 : j_F 60 69 = some (.goto 4, 3, 73, 0, .null, .int) := by decide +kernel
theorem jF_60_72 : j_F 60 72 = some (.iconst 0, 1, 0, 0, .null, .int) := by decide +kernel
theorem jF_60_73 : j_F 60 73 = some (.invokevirtual 162, 3, 61, 2, .null, .int) := by decide +kernel
theorem jF_60_76 : j_F 60 76 = some (.iconst 0, 1, 0, 0, .null, .int) := by decide +kernel
theorem jF_60_77 : j_F 60 77 = some (.istore 4, 2, 0, 0, .null, .int) := by decide +kernel
theorem jF_60_79 : j_F 60 79 = some (.iload 4, 2, 0, 0, .null, .int) := by decide +kernel
theorem jF_60_81 : j_F 60 81 = some (.iconst 3, 1, 0, 0, .null, .int) := by decide +kernel
theorem jF_60_82 : j_F 60 82 = some (.if_icmp .ge 22, 3, 104, 0, .null, .int) := by decide +kernel
theorem jF_60_85 : j_F 60 85 = some (.aload_n 0, 1, 0, 0, .null, .int) := by decide +kernel
theorem jF_60_86 : j_F 60 86 = some (.aload_n 1, 1, 0, 0, .null, .int) := by decide +kernel
theorem jF_60_87 : j_F 60 87 = some (.aload_n 2, 1, 0, 0, .null, .int) := by decide +kernel
theorem jF_60_88 : j_F 60 88 = some (.iload 4, 2, 0, 0, .null, .int) := by decide +kernel
theorem jF_60_90 : j_F 60 90 = some (.invokevirtual 166, 3, 62, 4, .null, .int) := by decide +kernel
theorem jF_60_93 : j_F 60 93 = some (.ifCond .ne 5, 3, 98, 0, .null, .int) := by decide +kernel
theorem jF_60_96 : j_F 60 96 = some (.iconst 0, 1, 0, 0, .null, .int) := by decide +kernel
theorem jF_60_97 : j_F 60 97 = some (.ireturn, 1, 0, 0, .null, .boolean) := by decide +kernel
theorem jF_60_98 : j_F 60 98 = some (.iinc 4 1, 3, 0, 0, .null, .int) := by decide +kernel
theorem jF_60_101 : j_F 60 101 = some (.goto (-22), 3, 79, 0, .null, .int) := by decide +kernel
theorem jF_60_104 : j_F 60 104 = some (.iconst 1, 1, 0, 0, .null, .int) := by decide +kernel
theorem jF_60_105 : j_F 60 105 = some (.ireturn, 1, 0, 0, .null, .boolean) := by decide +kernel
theorem jF_62_0 : j_F 62 0 = some (.aload_n 0, 1, 0, 0, .null, .int) := by decide +kernel
theorem jF_62_1 : j_F 62 1 = some (.getfield 9, 3, 9, 0, .null, (.object "HundredWords$Tape")) := by decide +kernel
theorem jF_62_4 : j_F 62 4 = some (.invokevirtual 62, 3, 37, 1, .null, .int) := by decide +kernel
theorem jF_62_7 : j_F 62 7 = some (.ifCond .eq 34, 3, 41, 0, .null, .int) := by decide +kernel
theorem jF_62_10 : j_F 62 10 = some (.aload_n 0, 1, 0, 0, .null, .int) := by decide +kernel
theorem jF_62_11 : j_F 62 11 = some (.getfield 9, 3, 9, 0, .null, (.object "HundredWords$Tape")) := by decide +kernel
theorem jF_62_14 : j_F 62 14 = some (.aload_n 0, 1, 0, 0, .null, .int) := by decide +kernel
theorem jF_62_15 : j_F 62 15 = some (.getfield 23, 3, 9, 1, .null, (.array .int)) := by decide +kernel
theorem jF_62_18 : j_F 62 18 = some (.invokevirtual 66, 3, 41, 2, .null, .int) := by decide +kernel
theorem jF_62_21 : j_F 62 21 = some (.bipush 13, 2, 0, 0, .null, .int) := by decide +kernel
theorem jF_62_23 : j_F 62 23 = some (.if_icmp .ne 18, 3, 41, 0, .null, .int) := by decide +kernel
theorem jF_62_26 : j_F 62 26 = some (.aload_n 0, 1, 0, 0, .null, .int) := by decide +kernel
theorem jF_62_27 : j_F 62 27 = some (.getfield 9, 3, 9, 0, .null, (.object "HundredWords$Tape")) := by decide +kernel
theorem jF_62_30 : j_F 62 30 = some (.invokevirtual 73, 3, 45, 1, .null, .int) := by decide +kernel
theorem jF_62_33 : j_F 62 33 = some (.aload_n 2, 1, 0, 0, .null, .int) := by decide +kernel
theorem jF_62_34 : j_F 62 34 = some (.iload_n 3, 1, 0, 0, .null, .int) := by decide +kernel
theorem jF_62_35 : j_F 62 35 = some (.iconst (-1), 1, 0, 0, .null, .int) := by decide +kernel
theorem jF_62_36 : j_F 62 36 = some (.invokevirtual 170, 3, 63, 3, .null, .int) := by decide +kernel
theorem jF_62_39 : j_F 62 39 = some (.iconst 1, 1, 0, 0, .null, .int) := by decide +kernel
theorem jF_62_40 : j_F 62 40 = some (.ireturn, 1, 0, 0, .null, .boolean) := by decide +kernel
theorem jF_62_41 : j_F 62 41 = some (.aload_n 0, 1, 0, 0, .null, .int) := by decide +kernel
theorem jF_62_42 : j_F 62 42 = some (.getfield 9, 3, 9, 0, .null, (.object "HundredWords$Tape")) := by decide +kernel
theorem jF_62_45 : j_F 62 45 = some (.aload_n 0, 1, 0, 0, .null, .int) := by decide +kernel
theorem jF_62_46 : j_F 62 46 = some (.getfield 23, 3, 9, 1, .null, (.array .int)) := by decide +kernel
theorem jF_62_49 : j_F 62 49 = some (.invokevirtual 115, 3, 49, 2, .null, .int) := by decide +kernel
theorem jF_62_52 : j_F 62 52 = some (.ifCond .ne 5, 3, 57, 0, .null, .int) := by decide +kernel
theorem jF_62_55 : j_F 62 55 = some (.iconst 0, 1, 0, 0, .null, .int) := by decide +kernel
theorem jF_62_56 : j_F 62 56 = some (.ireturn, 1, 0, 0, .null, .boolean) := by decide +kernel
theorem jF_62_57 : j_F 62 57 = some (.aload_n 1, 1, 0, 0, .null, .int) := by decide +kernel
theorem jF_62_58 : j_F 62 58 = some (.aload_n 0, 1, 0, 0, .null, .int) := by decide +kernel
theorem jF_62_59 : j_F 62 59 = some (.getfield 9, 3, 9, 0, .null, (.object "HundredWords$Tape")) := by decide +kernel
theorem jF_62_62 : j_F 62 62 = some (.getfield 119, 3, 6, 7, .null, .int) := by decide +kernel
theorem jF_62_65 : j_F 62 65 = some (.invokevirtual 122, 3, 50, 2, .null, .int) := by decide +kernel
theorem jF_62_68 : j_F 62 68 = some (.istore 4, 2, 0, 0, .null, .int) := by decide +kernel
theorem jF_62_70 : j_F 62 70 = some (.iload_n 3, 1, 0, 0, .null, .int) := by decide +kernel
theorem jF_62_71 : j_F 62 71 = some (.iconst 4, 1, 0, 0, .null, .int) := by decide +kernel
theorem jF_62_72 : j_F 62 72 = some (.imul, 1, 0, 0, .null, .int) := by decide +kernel
theorem jF_62_73 : j_F 62 73 = some (.istore 5, 2, 0, 0, .null, .int) := by decide +kernel
theorem jF_62_75 : j_F 62 75 = some (.iload 4, 2, 0, 0, .null, .int) := by decide +kernel
theorem jF_62_77 : j_F 62 77 = some (.iload 5, 2, 0, 0, .null, .int) := by decide +kernel
theorem jF_62_79 : j_F 62 79 = some (.if_icmp .lt 12, 3, 91, 0, .null, .int) := by decide +kernel
theorem jF_62_82 : j_F 62 82 = some (.iload 4, 2, 0, 0, .null, .int) := by decide +kernel
theorem jF_62_84 : j_F 62 84 = some (.iload 5, 2, 0, 0, .null, .int) := by decide +kernel
theorem jF_62_86 : j_F 62 86 = some (.iconst 4, 1, 0, 0, .null, .int) := by decide +kernel
theorem jF_62_87 : j_F 62 87 = some (.iadd, 1, 0, 0, .null, .int) := by decide +kernel
theorem jF_62_88 : j_F 62 88 = some (.if_icmp .lt 19, 3, 107, 0, .null, .int) := by decide +kernel
theorem jF_62_91 : j_F 62 91 = some (.aload_n 0, 1, 0, 0, .null, .int) := by decide +kernel
theorem jF_62_92 : j_F 62 92 = some (.getfield 9, 3, 9, 0, .null, (.object "HundredWords$Tape")) := by decide +kernel
theorem jF_62_95 : j_F 62 95 = some (.iconst 3, 1, 0, 0, .null, .int) := by decide +kernel
theorem jF_62_96 : j_F 62 96 = some (.aload_n 0, 1, 0, 0, .null, .int) := by decide +kernel
theorem jF_62_97 : j_F 62 97 = some (.getfield 9, 3, 9, 0, .null, (.object "HundredWords$Tape")) := by decide +kernel
theorem jF_62_100 : j_F 62 100 = some (.getfield 126, 3, 6, 5, .null, .int) := by decide +kernel
theorem jF_62_103 : j_F 62 103 = some (.invokevirtual 55, 3, 42, 3, .null, .int) := by decide +kernel
theorem jF_62_106 : j_F 62 106 = some (.ireturn, 1, 0, 0, .null, .boolean) := by decide +kernel
theorem jF_62_107 : j_F 62 107 = some (.aload_n 2, 1, 0, 0, .null, .int) := by decide +kernel
theorem jF_62_108 : j_F 62 108 = some (.iload_n 3, 1, 0, 0, .null, .int) := by decide +kernel
theorem jF_62_109 : j_F 62 109 = some (.iload 4, 2, 0, 0, .null, .int) := by decide +kernel
theorem jF_62_111 : j_F 62 111 = some (.invokevirtual 170, 3, 63, 3, .null, .int) := by decide +kernel
theorem jF_62_114 : j_F 62 114 = some (.iconst 1, 1, 0, 0, .null, .int) := by decide +kernel
theorem jF_62_115 : j_F 62 115 = some (.ireturn, 1, 0, 0, .null, .boolean) := by decide +kernel
theorem jF_64_0 : j_F 64 0 = some (.aload_n 0, 1, 0, 0, .null, .int) := by decide +kernel
theorem jF_64_1 : j_F 64 1 = some (.getfield 9, 3, 9, 0, .null, (.object "HundredWords$Tape")) := by decide +kernel
theorem jF_64_4 : j_F 64 4 = some (.aload_n 0, 1, 0, 0, .null, .int) := by decide +kernel
theorem jF_64_5 : j_F 64 5 = some (.getfield 23, 3, 9, 1, .null, (.array .int)) := by decide +kernel
theorem jF_64_8 : j_F 64 8 = some (.bipush 10, 2, 0, 0, .null, .int) := by decide +kernel
theorem jF_64_10 : j_F 64 10 = some (.invokevirtual 151, 3, 56, 3, .null, .int) := by decide +kernel
theorem jF_64_13 : j_F 64 13 = some (.ifCond .eq 34, 3, 47, 0, .null, .int) := by decide +kernel
theorem jF_64_16 : j_F 64 16 = some (.aload_n 0, 1, 0, 0, .null, .int) := by decide +kernel
theorem jF_64_17 : j_F 64 17 = some (.getfield 9, 3, 9, 0, .null, (.object "HundredWords$Tape")) := by decide +kernel
theorem jF_64_20 : j_F 64 20 = some (.iconst 1, 1, 0, 0, .null, .int) := by decide +kernel
theorem jF_64_21 : j_F 64 21 = some (.bipush 99, 2, 0, 0, .null, .int) := by decide +kernel
theorem jF_64_23 : j_F 64 23 = some (.invokevirtual 142, 3, 54, 3, .null, .int) := by decide +kernel
theorem jF_64_26 : j_F 64 26 = some (.ifCond .eq 21, 3, 47, 0, .null, .int) := by decide +kernel
theorem jF_64_29 : j_F 64 29 = some (.aload_n 1, 1, 0, 0, .null, .int) := by decide +kernel
theorem jF_64_30 : j_F 64 30 = some (.aload_n 0, 1, 0, 0, .null, .int) := by decide +kernel
theorem jF_64_31 : j_F 64 31 = some (.getfield 9, 3, 9, 0, .null, (.object "HundredWords$Tape")) := by decide +kernel
theorem jF_64_34 : j_F 64 34 = some (.getfield 145, 3, 6, 8, .null, .int) := by decide +kernel
theorem jF_64_37 : j_F 64 37 = some (.invokevirtual 104, 3, 65, 2, .null, .int) := by decide +kernel
theorem jF_64_40 : j_F 64 40 = some (.ifCond .eq 7, 3, 47, 0, .null, .int) := by decide +kernel
theorem jF_64_43 : j_F 64 43 = some (.iconst 1, 1, 0, 0, .null, .int) := by decide +kernel
theorem jF_64_44 : j_F 64 44 = some (.goto 4, 3, 48, 0, .null, .int) := by decide +kernel
theorem jF_64_47 : j_F 64 47 = some (.iconst 0, 1, 0, 0, .null, .int) := by decide +kernel
theorem jF_64_48 : j_F 64 48 = some (.ireturn, 1, 0, 0, .null, .boolean) := by decide +kernel
theorem jF_66_0 : j_F 66 0 = some (.aload_n 0, 1, 0, 0, .null, .int) := by decide +kernel
theorem jF_66_1 : j_F 66 1 = some (.aload_n 1, 1, 0, 0, .null, .int) := by decide +kernel
theorem jF_66_2 : j_F 66 2 = some (.invokevirtual 129, 3, 48, 2, .null, .int) := by decide +kernel
theorem jF_66_5 : j_F 66 5 = some (.ifCond .ne 5, 3, 10, 0, .null, .int) := by decide +kernel
theorem jF_66_8 : j_F 66 8 = some (.iconst 0, 1, 0, 0, .null, .int) := by decide +kernel
theorem jF_66_9 : j_F 66 9 = some (.ireturn, 1, 0, 0, .null, .boolean) := by decide +kernel
theorem jF_66_10 : j_F 66 10 = some (.aload_n 1, 1, 0, 0, .null, .int) := by decide +kernel
theorem jF_66_11 : j_F 66 11 = some (.iload_n 2, 1, 0, 0, .null, .int) := by decide +kernel
theorem jF_66_12 : j_F 66 12 = some (.aload_n 0, 1, 0, 0, .null, .int) := by decide +kernel
theorem jF_66_13 : j_F 66 13 = some (.getfield 9, 3, 9, 0, .null, (.object "HundredWords$Tape")) := by decide +kernel
theorem jF_66_16 : j_F 66 16 = some (.getfield 119, 3, 6, 7, .null, .int) := by decide +kernel
theorem jF_66_19 : j_F 66 19 = some (.invokevirtual 132, 3, 67, 3, .null, .int) := by decide +kernel
theorem jF_66_22 : j_F 66 22 = some (.iconst 1, 1, 0, 0, .null, .int) := by decide +kernel
theorem jF_66_23 : j_F 66 23 = some (.ireturn, 1, 0, 0, .null, .boolean) := by decide +kernel
theorem jF_71_0 : j_F 71 0 = some (.aload_n 0, 1, 0, 0, .null, .int) := by decide +kernel
theorem jF_71_1 : j_F 71 1 = some (.iconst 0, 1, 0, 0, .null, .int) := by decide +kernel
theorem jF_71_2 : j_F 71 2 = some (.putfield 28, 3, 4, 1, .null, .int) := by decide +kernel
theorem jF_71_5 : j_F 71 5 = some (.aload_n 0, 1, 0, 0, .null, .int) := by decide +kernel
theorem jF_71_6 : j_F 71 6 = some (.iconst 0, 1, 0, 0, .null, .int) := by decide +kernel
theorem jF_71_7 : j_F 71 7 = some (.putfield 32, 3, 4, 2, .null, .int) := by decide +kernel
theorem jF_71_10 : j_F 71 10 = some (.aload_n 0, 1, 0, 0, .null, .int) := by decide +kernel
theorem jF_71_11 : j_F 71 11 = some (.iconst 0, 1, 0, 0, .null, .int) := by decide +kernel
theorem jF_71_12 : j_F 71 12 = some (.putfield 35, 3, 4, 6, .null, .int) := by decide +kernel
theorem jF_71_15 : j_F 71 15 = some (.aload_n 0, 1, 0, 0, .null, .int) := by decide +kernel
theorem jF_71_16 : j_F 71 16 = some (.lconst 0, 1, 0, 0, .null, .int) := by decide +kernel
theorem jF_71_17 : j_F 71 17 = some (.putfield 38, 3, 4, 7, .null, .long) := by decide +kernel
theorem jF_71_20 : j_F 71 20 = some (.aload_n 0, 1, 0, 0, .null, .int) := by decide +kernel
theorem jF_71_21 : j_F 71 21 = some (.getfield 15, 3, 4, 3, .null, (.array .int)) := by decide +kernel
theorem jF_71_24 : j_F 71 24 = some (.iconst 0, 1, 0, 0, .null, .int) := by decide +kernel
theorem jF_71_25 : j_F 71 25 = some (.iconst 0, 1, 0, 0, .null, .int) := by decide +kernel
theorem jF_71_26 : j_F 71 26 = some (.iastore, 1, 0, 0, .null, .int) := by decide +kernel
theorem jF_71_27 : j_F 71 27 = some (.aload_n 0, 1, 0, 0, .null, .int) := by decide +kernel
theorem jF_71_28 : j_F 71 28 = some (.getfield 18, 3, 4, 4, .null, (.array .int)) := by decide +kernel
theorem jF_71_31 : j_F 71 31 = some (.iconst 0, 1, 0, 0, .null, .int) := by decide +kernel
theorem jF_71_32 : j_F 71 32 = some (.iconst 0, 1, 0, 0, .null, .int) := by decide +kernel
theorem jF_71_33 : j_F 71 33 = some (.iastore, 1, 0, 0, .null, .int) := by decide +kernel
theorem jF_71_34 : j_F 71 34 = some (.return_, 1, 0, 0, .null, .int) := by decide +kernel
theorem jF_75_0 : j_F 75 0 = some (.aload_n 0, 1, 0, 0, .null, .int) := by decide +kernel
theorem jF_75_1 : j_F 75 1 = some (.getfield 9, 3, 2, 0, .null, (.object "HundredWords$Tape")) := by decide +kernel
theorem jF_75_4 : j_F 75 4 = some (.invokevirtual 29, 3, 34, 1, .null, .int) := by decide +kernel
theorem jF_75_7 : j_F 75 7 = some (.aload_n 2, 1, 0, 0, .null, .int) := by decide +kernel
theorem jF_75_8 : j_F 75 8 = some (.invokevirtual 32, 3, 71, 1, .null, .int) := by decide +kernel
theorem jF_75_11 : j_F 75 11 = some (.iconst 0, 1, 0, 0, .null, .int) := by decide +kernel
theorem jF_75_12 : j_F 75 12 = some (.istore_n 3, 1, 0, 0, .null, .int) := by decide +kernel
theorem jF_75_13 : j_F 75 13 = some (.iconst 0, 1, 0, 0, .null, .int) := by decide +kernel
theorem jF_75_14 : j_F 75 14 = some (.istore 4, 2, 0, 0, .null, .int) := by decide +kernel
theorem jF_75_16 : j_F 75 16 = some (.iload 4, 2, 0, 0, .null, .int) := by decide +kernel
theorem jF_75_18 : j_F 75 18 = some (.bipush 60, 2, 0, 0, .null, .int) := by decide +kernel
theorem jF_75_20 : j_F 75 20 = some (.if_icmp .gt 123, 3, 143, 0, .null, .int) := by decide +kernel
theorem jF_75_23 : j_F 75 23 = some (.aload_n 0, 1, 0, 0, .null, .int) := by decide +kernel
theorem jF_75_24 : j_F 75 24 = some (.getfield 9, 3, 2, 0, .null, (.object "HundredWords$Tape")) := by decide +kernel
theorem jF_75_27 : j_F 75 27 = some (.invokevirtual 37, 3, 35, 1, .null, .int) := by decide +kernel
theorem jF_75_30 : j_F 75 30 = some (.istore 5, 2, 0, 0, .null, .int) := by decide +kernel
theorem jF_75_32 : j_F 75 32 = some (.iload 5, 2, 0, 0, .null, .int) := by decide +kernel
theorem jF_75_34 : j_F 75 34 = some (.iconst (-1), 1, 0, 0, .null, .int) := by decide +kernel
theorem jF_75_35 : j_F 75 35 = some (.if_icmp .ne 31, 3, 66, 0, .null, .int) := by decide +kernel
theorem jF_75_38 : j_F 75 38 = some (.iload_n 3, 1, 0, 0, .null, .int) := by decide +kernel
theorem jF_75_39 : j_F 75 39 = some (.ifCond .eq 21, 3, 60, 0, .null, .int) := by decide +kernel
theorem jF_75_42 : j_F 75 42 = some (.aload_n 0, 1, 0, 0, .null, .int) := by decide +kernel
theorem jF_75_43 : j_F 75 43 = some (.getfield 9, 3, 2, 0, .null, (.object "HundredWords$Tape")) := by decide +kernel
theorem jF_75_46 : j_F 75 46 = some (.iconst 1, 1, 0, 0, .null, .int) := by decide +kernel
theorem jF_75_47 : j_F 75 47 = some (.aload_n 0, 1, 0, 0, .null, .int) := by decide +kernel
theorem jF_75_48 : j_F 75 48 = some (.getfield 9, 3, 2, 0, .null, (.object "HundredWords$Tape")) := by decide +kernel
theorem jF_75_51 : j_F 75 51 = some (.getfield 41, 3, 6, 1, .null, .int) := by decide +kernel
theorem jF_75_54 : j_F 75 54 = some (.invokevirtual 45, 3, 42, 3, .null, .int) := by decide +kernel
theorem jF_75_57 : j_F 75 57 = some (.ifCond .eq 7, 3, 64, 0, .null, .int) := by decide +kernel
theorem jF_75_60 : j_F 75 60 = some (.iconst 1, 1, 0, 0, .null, .int) := by decide +kernel
theorem jF_75_61 : j_F 75 61 = some (.goto 4, 3, 65, 0, .null, .int) := by decide +kernel
theorem jF_75_64 : j_F 75 64 = some (.iconst 0, 1, 0, 0, .null, .int) := by decide +kernel
theorem jF_75_65 : j_F 75 65 = some (.ireturn, 1, 0, 0, .null, .boolean) := by decide +kernel
theorem jF_75_66 : j_F 75 66 = some (.aload_n 0, 1, 0, 0, .null, .int) := by decide +kernel
theorem jF_75_67 : j_F 75 67 = some (.aload_n 1, 1, 0, 0, .null, .int) := by decide +kernel
theorem jF_75_68 : j_F 75 68 = some (.aload_n 2, 1, 0, 0, .null, .int) := by decide +kernel
theorem jF_75_69 : j_F 75 69 = some (.iload 5, 2, 0, 0, .null, .int) := by decide +kernel
theorem jF_75_71 : j_F 75 71 = some (.invokevirtual 49, 3, 76, 4, .null, .int) := by decide +kernel
theorem jF_75_74 : j_F 75 74 = some (.ifCond .ne 19, 3, 93, 0, .null, .int) := by decide +kernel
theorem jF_75_77 : j_F 75 77 = some (.aload_n 0, 1, 0, 0, .null, .int) := by decide +kernel
theorem jF_75_78 : j_F 75 78 = some (.getfield 9, 3, 2, 0, .null, (.object "HundredWords$Tape")) := by decide +kernel
theorem jF_75_81 : j_F 75 81 = some (.iconst 5, 1, 0, 0, .null, .int) := by decide +kernel
theorem jF_75_82 : j_F 75 82 = some (.aload_n 0, 1, 0, 0, .null, .int) := by decide +kernel
theorem jF_75_83 : j_F 75 83 = some (.getfield 9, 3, 2, 0, .null, (.object "HundredWords$Tape")) := by decide +kernel
theorem jF_75_86 : j_F 75 86 = some (.getfield 53, 3, 6, 2, .null, .int) := by decide +kernel
theorem jF_75_89 : j_F 75 89 = some (.invokevirtual 45, 3, 42, 3, .null, .int) := by decide +kernel
theorem jF_75_92 : j_F 75 92 = some (.ireturn, 1, 0, 0, .null, .boolean) := by decide +kernel
theorem jF_75_93 : j_F 75 93 = some (.iload 5, 2, 0, 0, .null, .int) := by decide +kernel
theorem jF_75_95 : j_F 75 95 = some (.bipush 46, 2, 0, 0, .null, .int) := by decide +kernel
theorem jF_75_97 : j_F 75 97 = some (.if_icmp .ne 11, 3, 108, 0, .null, .int) := by decide +kernel
theorem jF_75_100 : j_F 75 100 = some (.aload_n 0, 1, 0, 0, .null, .int) := by decide +kernel
theorem jF_75_101 : j_F 75 101 = some (.iload_n 3, 1, 0, 0, .null, .int) := by decide +kernel
theorem jF_75_102 : j_F 75 102 = some (.invokevirtual 56, 3, 77, 2, .null, .int) := by decide +kernel
theorem jF_75_105 : j_F 75 105 = some (.goto 9, 3, 114, 0, .null, .int) := by decide +kernel
theorem jF_75_108 : j_F 75 108 = some (.aload_n 0, 1, 0, 0, .null, .int) := by decide +kernel
theorem jF_75_109 : j_F 75 109 = some (.aload_n 1, 1, 0, 0, .null, .int) := by decide +kernel
theorem jF_75_110 : j_F 75 110 = some (.iload_n 3, 1, 0, 0, .null, .int) := by decide +kernel
theorem jF_75_111 : j_F 75 111 = some (.invokevirtual 60, 3, 79, 3, .null, .int) := by decide +kernel
theorem jF_75_114 : j_F 75 114 = some (.istore 6, 2, 0, 0, .null, .int) := by decide +kernel
theorem jF_75_116 : j_F 75 116 = some (.iload 6, 2, 0, 0, .null, .int) := by decide +kernel
theorem jF_75_118 : j_F 75 118 = some (.iconst (-1), 1, 0, 0, .null, .int) := by decide +kernel
theorem jF_75_119 : j_F 75 119 = some (.if_icmp .ne 5, 3, 124, 0, .null, .int) := by decide +kernel
theorem jF_75_122 : j_F 75 122 = some (.iconst 0, 1, 0, 0, .null, .int) := by decide +kernel
theorem jF_75_123 : j_F 75 123 = some (.ireturn, 1, 0, 0, .null, .boolean) := by decide +kernel
theorem jF_75_124 : j_F 75 124 = some (.aload_n 2, 1, 0, 0, .null, .int) := by decide +kernel
theorem jF_75_125 : j_F 75 125 = some (.iload 6, 2, 0, 0, .null, .int) := by decide +kernel
theorem jF_75_127 : j_F 75 127 = some (.invokevirtual 64, 3, 80, 2, .null, .int) := by decide +kernel
theorem jF_75_130 : j_F 75 130 = some (.iload_n 3, 1, 0, 0, .null, .int) := by decide +kernel
theorem jF_75_131 : j_F 75 131 = some (.iload 6, 2, 0, 0, .null, .int) := by decide +kernel
theorem jF_75_133 : j_F 75 133 = some (.invokestatic 68, 3, 78, 2, .null, .int) := by decide +kernel
theorem jF_75_136 : j_F 75 136 = some (.istore_n 3, 1, 0, 0, .null, .int) := by decide +kernel
theorem jF_75_137 : j_F 75 137 = some (.iinc 4 1, 3, 0, 0, .null, .int) := by decide +kernel
theorem jF_75_140 : j_F 75 140 = some (.goto (-124), 3, 16, 0, .null, .int) := by decide +kernel
theorem jF_75_143 : j_F 75 143 = some (.iconst 0, 1, 0, 0, .null, .int) := by decide +kernel
theorem jF_75_144 : j_F 75 144 = some (.ireturn, 1, 0, 0, .null, .boolean) := by decide +kernel
theorem jF_76_0 : j_F 76 0 = some (.aload_n 0, 1, 0, 0, .null, .int) := by decide +kernel
theorem jF_76_1 : j_F 76 1 = some (.getfield 9, 3, 2, 0, .null, (.object "HundredWords$Tape")) := by decide +kernel
theorem jF_76_4 : j_F 76 4 = some (.invokevirtual 72, 3, 37, 1, .null, .int) := by decide +kernel
theorem jF_76_7 : j_F 76 7 = some (.ifCond .eq 29, 3, 36, 0, .null, .int) := by decide +kernel
theorem jF_76_10 : j_F 76 10 = some (.aload_n 2, 1, 0, 0, .null, .int) := by decide +kernel
theorem jF_76_11 : j_F 76 11 = some (.getfield 76, 3, 4, 2, .null, .int) := by decide +kernel
theorem jF_76_14 : j_F 76 14 = some (.aload_n 1, 1, 0, 0, .null, .int) := by decide +kernel
theorem jF_76_15 : j_F 76 15 = some (.getfield 79, 3, 8, 10, .null, .int) := by decide +kernel
theorem jF_76_18 : j_F 76 18 = some (.if_icmp .ge 16, 3, 34, 0, .null, .int) := by decide +kernel
theorem jF_76_21 : j_F 76 21 = some (.aload_n 2, 1, 0, 0, .null, .int) := by decide +kernel
theorem jF_76_22 : j_F 76 22 = some (.getfield 84, 3, 4, 1, .null, .int) := by decide +kernel
theorem jF_76_25 : j_F 76 25 = some (.bipush 60, 2, 0, 0, .null, .int) := by decide +kernel
theorem jF_76_27 : j_F 76 27 = some (.if_icmp .ge 7, 3, 34, 0, .null, .int) := by decide +kernel
theorem jF_76_30 : j_F 76 30 = some (.iconst 1, 1, 0, 0, .null, .int) := by decide +kernel
theorem jF_76_31 : j_F 76 31 = some (.goto 4, 3, 35, 0, .null, .int) := by decide +kernel
theorem jF_76_34 : j_F 76 34 = some (.iconst 0, 1, 0, 0, .null, .int) := by decide +kernel
theorem jF_76_35 : j_F 76 35 = some (.ireturn, 1, 0, 0, .null, .boolean) := by decide +kernel
theorem jF_76_36 : j_F 76 36 = some (.iload_n 3, 1, 0, 0, .null, .int) := by decide +kernel
theorem jF_76_37 : j_F 76 37 = some (.bipush 46, 2, 0, 0, .null, .int) := by decide +kernel
theorem jF_76_39 : j_F 76 39 = some (.if_icmp .ne 12, 3, 51, 0, .null, .int) := by decide +kernel
theorem jF_76_42 : j_F 76 42 = some (.aload_n 2, 1, 0, 0, .null, .int) := by decide +kernel
theorem jF_76_43 : j_F 76 43 = some (.getfield 84, 3, 4, 1, .null, .int) := by decide +kernel
theorem jF_76_46 : j_F 76 46 = some (.bipush 60, 2, 0, 0, .null, .int) := by decide +kernel
theorem jF_76_48 : j_F 76 48 = some (.if_icmp .ge 7, 3, 55, 0, .null, .int) := by decide +kernel
theorem jF_76_51 : j_F 76 51 = some (.iconst 1, 1, 0, 0, .null, .int) := by decide +kernel
theorem jF_76_52 : j_F 76 52 = some (.goto 4, 3, 56, 0, .null, .int) := by decide +kernel
theorem jF_76_55 : j_F 76 55 = some (.iconst 0, 1, 0, 0, .null, .int) := by decide +kernel
theorem jF_76_56 : j_F 76 56 = some (.ireturn, 1, 0, 0, .null, .boolean) := by decide +kernel
theorem jF_77_0 : j_F 77 0 = some (.iload_n 1, 1, 0, 0, .null, .int) := by decide +kernel
theorem jF_77_1 : j_F 77 1 = some (.bipush 22, 2, 0, 0, .null, .int) := by decide +kernel
theorem jF_77_3 : j_F 77 3 = some (.invokestatic 68, 3, 78, 2, .null, .int) := by decide +kernel
theorem jF_77_6 : j_F 77 6 = some (.iconst (-1), 1, 0, 0, .null, .int) := by decide +kernel
theorem jF_77_7 : j_F 77 7 = some (.if_icmp .ne 21, 3, 28, 0, .null, .int) := by decide +kernel
theorem jF_77_10 : j_F 77 10 = some (.aload_n 0, 1, 0, 0, .null, .int) := by decide +kernel
theorem jF_77_11 : j_F 77 11 = some (.getfield 9, 3, 2, 0, .null, (.object "HundredWords$Tape")) := by decide +kernel
theorem jF_77_14 : j_F 77 14 = some (.iconst 1, 1, 0, 0, .null, .int) := by decide +kernel
theorem jF_77_15 : j_F 77 15 = some (.aload_n 0, 1, 0, 0, .null, .int) := by decide +kernel
theorem jF_77_16 : j_F 77 16 = some (.getfield 9, 3, 2, 0, .null, (.object "HundredWords$Tape")) := by decide +kernel
theorem jF_77_19 : j_F 77 19 = some (.getfield 53, 3, 6, 2, .null, .int) := by decide +kernel
theorem jF_77_22 : j_F 77 22 = some (.invokevirtual 45, 3, 42, 3, .null, .int) := by decide +kernel
theorem jF_77_25 : j_F 77 25 = some (.pop, 1, 0, 0, .null, .int) := by decide +kernel
theorem jF_77_26 : j_F 77 26 = some (.iconst (-1), 1, 0, 0, .null, .int) := by decide +kernel
theorem jF_77_27 : j_F 77 27 = some (.ireturn, 1, 0, 0, .null, .int) := by decide +kernel
theorem jF_77_28 : j_F 77 28 = some (.aload_n 0, 1, 0, 0, .null, .int) := by decide +kernel
theorem jF_77_29 : j_F 77 29 = some (.getfield 9, 3, 2, 0, .null, (.object "HundredWords$Tape")) := by decide +kernel
theorem jF_77_32 : j_F 77 32 = some (.dup, 1, 0, 0, .null, .int) := by decide +kernel
theorem jF_77_33 : j_F 77 33 = some (.getfield 53, 3, 6, 2, .null, .int) := by decide +kernel
theorem jF_77_36 : j_F 77 36 = some (.iconst 1, 1, 0, 0, .null, .int) := by decide +kernel
theorem jF_77_37 : j_F 77 37 = some (.iadd, 1, 0, 0, .null, .int) := by decide +kernel
theorem jF_77_38 : j_F 77 38 = some (.putfield 53, 3, 6, 2, .null, .int) := by decide +kernel
theorem jF_77_41 : j_F 77 41 = some (.bipush 22, 2, 0, 0, .null, .int) := by decide +kernel
theorem jF_77_43 : j_F 77 43 = some (.ireturn, 1, 0, 0, .null, .int) := by decide +kernel
theorem jF_79_0 : j_F 79 0 = some (.aload_n 0, 1, 0, 0, .null, .int) := by decide +kernel
theorem jF_79_1 : j_F 79 1 = some (.getfield 9, 3, 2, 0, .null, (.object "HundredWords$Tape")) := by decide +kernel
theorem jF_79_4 : j_F 79 4 = some (.invokevirtual 72, 3, 37, 1, .null, .int) := by decide +kernel
theorem jF_79_7 : j_F 79 7 = some (.ifCond .eq 17, 3, 24, 0, .null, .int) := by decide +kernel
theorem jF_79_10 : j_F 79 10 = some (.aload_n 0, 1, 0, 0, .null, .int) := by decide +kernel
theorem jF_79_11 : j_F 79 11 = some (.getfield 9, 3, 2, 0, .null, (.object "HundredWords$Tape")) := by decide +kernel
theorem jF_79_14 : j_F 79 14 = some (.aload_n 0, 1, 0, 0, .null, .int) := by decide +kernel
theorem jF_79_15 : j_F 79 15 = some (.getfield 25, 3, 2, 1, .null, (.array .int)) := by decide +kernel
theorem jF_79_18 : j_F 79 18 = some (.invokevirtual 87, 3, 41, 2, .null, .int) := by decide +kernel
theorem jF_79_21 : j_F 79 21 = some (.goto 4, 3, 25, 0, .null, .int) := by decide +kernel
theorem jF_79_24 : j_F 79 24 = some (.iconst (-1), 1, 0, 0, .null, .int) := by decide +kernel
theorem jF_79_25 : j_F 79 25 = some (.istore_n 3, 1, 0, 0, .null, .int) := by decide +kernel
theorem jF_79_26 : j_F 79 26 = some (.iload_n 3, 1, 0, 0, .null, .int) := by decide +kernel
theorem jF_79_27 : j_F 79 27 = some (.bipush 14, 2, 0, 0, .null, .int) := by decide +kernel
theorem jF_79_29 : j_F 79 29 = some (.if_icmp .lt 33, 3, 62, 0, .null, .int) := by decide +kernel
theorem jF_79_32 : j_F 79 32 = some (.iload_n 2, 1, 0, 0, .null, .int) := by decide +kernel
theorem jF_79_33 : j_F 79 33 = some (.iload_n 3, 1, 0, 0, .null, .int) := by decide +kernel
theorem jF_79_34 : j_F 79 34 = some (.bipush 14, 2, 0, 0, .null, .int) := by decide +kernel
theorem jF_79_36 : j_F 79 36 = some (.isub, 1, 0, 0, .null, .int) := by decide +kernel
theorem jF_79_37 : j_F 79 37 = some (.bipush 18, 2, 0, 0, .null, .int) := by decide +kernel
theorem jF_79_39 : j_F 79 39 = some (.iadd, 1, 0, 0, .null, .int) := by decide +kernel
theorem jF_79_40 : j_F 79 40 = some (.invokestatic 68, 3, 78, 2, .null, .int) := by decide +kernel
theorem jF_79_43 : j_F 79 43 = some (.iconst (-1), 1, 0, 0, .null, .int) := by decide +kernel
theorem jF_79_44 : j_F 79 44 = some (.if_icmp .eq 18, 3, 62, 0, .null, .int) := by decide +kernel
theorem jF_79_47 : j_F 79 47 = some (.aload_n 0, 1, 0, 0, .null, .int) := by decide +kernel
theorem jF_79_48 : j_F 79 48 = some (.getfield 9, 3, 2, 0, .null, (.object "HundredWords$Tape")) := by decide +kernel
theorem jF_79_51 : j_F 79 51 = some (.invokevirtual 91, 3, 45, 1, .null, .int) := by decide +kernel
theorem jF_79_54 : j_F 79 54 = some (.iload_n 3, 1, 0, 0, .null, .int) := by decide +kernel
theorem jF_79_55 : j_F 79 55 = some (.bipush 14, 2, 0, 0, .null, .int) := by decide +kernel
theorem jF_79_57 : j_F 79 57 = some (.isub, 1, 0, 0, .null, .int) := by decide +kernel
theorem jF_79_58 : j_F 79 58 = some (.bipush 18, 2, 0, 0, .null, .int) := by decide +kernel
theorem jF_79_60 : j_F 79 60 = some (.iadd, 1, 0, 0, .null, .int) := by decide +kernel
theorem jF_79_61 : j_F 79 61 = some (.ireturn, 1, 0, 0, .null, .int) := by decide +kernel
theorem jF_79_62 : j_F 79 62 = some (.iload_n 2, 1, 0, 0, .null, .int) := by decide +kernel
theorem jF_79_63 : j_F 79 63 = some (.iconst 0, 1, 0, 0, .null, .int) := by decide +kernel
theorem jF_79_64 : j_F 79 64 = some (.invokestatic 68, 3, 78, 2, .null, .int) := by decide +kernel
theorem jF_79_67 : j_F 79 67 = some (.iconst (-1), 1, 0, 0, .null, .int) := by decide +kernel
theorem jF_79_68 : j_F 79 68 = some (.if_icmp .ne 21, 3, 89, 0, .null, .int) := by decide +kernel
theorem jF_79_71 : j_F 79 71 = some (.aload_n 0, 1, 0, 0, .null, .int) := by decide +kernel
theorem jF_79_72 : j_F 79 72 = some (.getfield 9, 3, 2, 0, .null, (.object "HundredWords$Tape")) := by decide +kernel
theorem jF_79_75 : j_F 79 75 = some (.iconst 1, 1, 0, 0, .null, .int) := by decide +kernel
theorem jF_79_76 : j_F 79 76 = some (.aload_n 0, 1, 0, 0, .null, .int) := by decide +kernel
theorem jF_79_77 : j_F 79 77 = some (.getfield 9, 3, 2, 0, .null, (.object "HundredWords$Tape")) := by decide +kernel
theorem jF_79_80 : j_F 79 80 = some (.getfield 53, 3, 6, 2, .null, .int) := by decide +kernel
theorem jF_79_83 : j_F 79 83 = some (.invokevirtual 45, 3, 42, 3, .null, .int) := by decide +kernel
theorem jF_79_86 : j_F 79 86 = some (.pop, 1, 0, 0, .null, .int) := by decide +kernel
theorem jF_79_87 : j_F 79 87 = some (.iconst (-1), 1, 0, 0, .null, .int) := by decide +kernel
theorem jF_79_88 : j_F 79 88 = some (.ireturn, 1, 0, 0, .null, .int) := by decide +kernel
theorem jF_79_89 : j_F 79 89 = some (.aload_n 0, 1, 0, 0, .null, .int) := by decide +kernel
theorem jF_79_90 : j_F 79 90 = some (.getfield 9, 3, 2, 0, .null, (.object "HundredWords$Tape")) := by decide +kernel
theorem jF_79_93 : j_F 79 93 = some (.aload_n 0, 1, 0, 0, .null, .int) := by decide +kernel
theorem jF_79_94 : j_F 79 94 = some (.getfield 25, 3, 2, 1, .null, (.array .int)) := by decide +kernel
theorem jF_79_97 : j_F 79 97 = some (.invokevirtual 94, 3, 49, 2, .null, .int) := by decide +kernel
theorem jF_79_100 : j_F 79 100 = some (.ifCond .ne 5, 3, 105, 0, .null, .int) := by decide +kernel
theorem jF_79_103 : j_F 79 103 = some (.iconst (-1), 1, 0, 0, .null, .int) := by decide +kernel
theorem jF_79_104 : j_F 79 104 = some (.ireturn, 1, 0, 0, .null, .int) := by decide +kernel
theorem jF_79_105 : j_F 79 105 = some (.aload_n 1, 1, 0, 0, .null, .int) := by decide +kernel
theorem jF_79_106 : j_F 79 106 = some (.aload_n 0, 1, 0, 0, .null, .int) := by decide +kernel
theorem jF_79_107 : j_F 79 107 = some (.getfield 9, 3, 2, 0, .null, (.object "HundredWords$Tape")) := by decide +kernel
theorem jF_79_110 : j_F 79 110 = some (.getfield 98, 3, 6, 7, .null, .int) := by decide +kernel
theorem jF_79_113 : j_F 79 113 = some (.invokevirtual 101, 3, 50, 2, .null, .int) := by decide +kernel
theorem jF_79_116 : j_F 79 116 = some (.istore 4, 2, 0, 0, .null, .int) := by decide +kernel
theorem jF_79_118 : j_F 79 118 = some (.iload 4, 2, 0, 0, .null, .int) := by decide +kernel
theorem jF_79_120 : j_F 79 120 = some (.iconst (-1), 1, 0, 0, .null, .int) := by decide +kernel
theorem jF_79_121 : j_F 79 121 = some (.if_icmp .eq 12, 3, 133, 0, .null, .int) := by decide +kernel
theorem jF_79_124 : j_F 79 124 = some (.aload_n 1, 1, 0, 0, .null, .int) := by decide +kernel
theorem jF_79_125 : j_F 79 125 = some (.iload 4, 2, 0, 0, .null, .int) := by decide +kernel
theorem jF_79_127 : j_F 79 127 = some (.invokevirtual 104, 3, 51, 2, .null, .int) := by decide +kernel
theorem jF_79_130 : j_F 79 130 = some (.ifCond .eq 21, 3, 151, 0, .null, .int) := by decide +kernel
theorem jF_79_133 : j_F 79 133 = some (.aload_n 0, 1, 0, 0, .null, .int) := by decide +kernel
theorem jF_79_134 : j_F 79 134 = some (.getfield 9, 3, 2, 0, .null, (.object "HundredWords$Tape")) := by decide +kernel
theorem jF_79_137 : j_F 79 137 = some (.iconst 3, 1, 0, 0, .null, .int) := by decide +kernel
theorem jF_79_138 : j_F 79 138 = some (.aload_n 0, 1, 0, 0, .null, .int) := by decide +kernel
theorem jF_79_139 : j_F 79 139 = some (.getfield 9, 3, 2, 0, .null, (.object "HundredWords$Tape")) := by decide +kernel
theorem jF_79_142 : j_F 79 142 = some (.getfield 108, 3, 6, 5, .null, .int) := by decide +kernel
theorem jF_79_145 : j_F 79 145 = some (.invokevirtual 45, 3, 42, 3, .null, .int) := by decide +kernel
theorem jF_79_148 : j_F 79 148 = some (.pop, 1, 0, 0, .null, .int) := by decide +kernel
theorem jF_79_149 : j_F 79 149 = some (.iconst (-1), 1, 0, 0, .null, .int) := by decide +kernel
theorem jF_79_150 : j_F 79 150 = some (.ireturn, 1, 0, 0, .null, .int) := by decide +kernel
theorem jF_79_151 : j_F 79 151 = some (.iload 4, 2, 0, 0, .null, .int) := by decide +kernel
theorem jF_79_153 : j_F 79 153 = some (.ireturn, 1, 0, 0, .null, .int) := by decide +kernel
theorem jF_80_0 : j_F 80 0 = some (.aload_n 0, 1, 0, 0, .null, .int) := by decide +kernel
theorem jF_80_1 : j_F 80 1 = some (.getfield 28, 3, 4, 1, .null, .int) := by decide +kernel
theorem jF_80_4 : j_F 80 4 = some (.bipush 60, 2, 0, 0, .null, .int) := by decide +kernel
theorem jF_80_6 : j_F 80 6 = some (.if_icmp .ge 36, 3, 42, 0, .null, .int) := by decide +kernel
theorem jF_80_9 : j_F 80 9 = some (.aload_n 0, 1, 0, 0, .null, .int) := by decide +kernel
theorem jF_80_10 : j_F 80 10 = some (.getfield 9, 3, 4, 0, .null, (.array .int)) := by decide +kernel
theorem jF_80_13 : j_F 80 13 = some (.aload_n 0, 1, 0, 0, .null, .int) := by decide +kernel
theorem jF_80_14 : j_F 80 14 = some (.getfield 28, 3, 4, 1, .null, .int) := by decide +kernel
theorem jF_80_17 : j_F 80 17 = some (.iload_n 1, 1, 0, 0, .null, .int) := by decide +kernel
theorem jF_80_18 : j_F 80 18 = some (.iastore, 1, 0, 0, .null, .int) := by decide +kernel
theorem jF_80_19 : j_F 80 19 = some (.aload_n 0, 1, 0, 0, .null, .int) := by decide +kernel
theorem jF_80_20 : j_F 80 20 = some (.dup, 1, 0, 0, .null, .int) := by decide +kernel
theorem jF_80_21 : j_F 80 21 = some (.getfield 28, 3, 4, 1, .null, .int) := by decide +kernel
theorem jF_80_24 : j_F 80 24 = some (.iconst 1, 1, 0, 0, .null, .int) := by decide +kernel
theorem jF_80_25 : j_F 80 25 = some (.iadd, 1, 0, 0, .null, .int) := by decide +kernel
theorem jF_80_26 : j_F 80 26 = some (.putfield 28, 3, 4, 1, .null, .int) := by decide +kernel
theorem jF_80_29 : j_F 80 29 = some (.aload_n 0, 1, 0, 0, .null, .int) := by decide +kernel
theorem jF_80_30 : j_F 80 30 = some (.dup, 1, 0, 0, .null, .int) := by decide +kernel
theorem jF_80_31 : j_F 80 31 = some (.getfield 32, 3, 4, 2, .null, .int) := by decide +kernel
theorem jF_80_34 : j_F 80 34 = some (.iload_n 1, 1, 0, 0, .null, .int) := by decide +kernel
theorem jF_80_35 : j_F 80 35 = some (.invokestatic 42, 3, 81, 1, .null, .int) := by decide +kernel
theorem jF_80_38 : j_F 80 38 = some (.iadd, 1, 0, 0, .null, .int) := by decide +kernel
theorem jF_80_39 : j_F 80 39 = some (.putfield 32, 3, 4, 2, .null, .int) := by decide +kernel
theorem jF_80_42 : j_F 80 42 = some (.return_, 1, 0, 0, .null, .int) := by decide +kernel
theorem jF_81_0 : j_F 81 0 = some (.iload_n 0, 1, 0, 0, .null, .int) := by decide +kernel
theorem jF_81_1 : j_F 81 1 = some (.bipush 22, 2, 0, 0, .null, .int) := by decide +kernel
theorem jF_81_3 : j_F 81 3 = some (.if_icmp .ne 7, 3, 10, 0, .null, .int) := by decide +kernel
theorem jF_81_6 : j_F 81 6 = some (.iconst 0, 1, 0, 0, .null, .int) := by decide +kernel
theorem jF_81_7 : j_F 81 7 = some (.goto 4, 3, 11, 0, .null, .int) := by decide +kernel
theorem jF_81_10 : j_F 81 10 = some (.iconst 1, 1, 0, 0, .null, .int) := by decide +kernel
theorem jF_81_11 : j_F 81 11 = some (.ireturn, 1, 0, 0, .null, .int) := by decide +kernel
