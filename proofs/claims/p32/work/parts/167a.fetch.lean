/-! CODE. -/
theorem jF_172_0 : j_F 172 0 = some (.aload_n 0, 1, 0, 0, .null, .int) := by decide +kernel
theorem jF_172_1 : j_F 172 1 = some (.getfield 9, 3, 3, 0, .null, (.object "HundredWords$Tape")) := by decide +kernel
theorem jF_172_4 : j_F 172 4 = some (.invokevirtual 34, 3, 34, 1, .null, .int) := by decide +kernel
theorem jF_172_7 : j_F 172 7 = some (.aload_n 0, 1, 0, 0, .null, .int) := by decide +kernel
theorem jF_172_8 : j_F 172 8 = some (.iconst 0, 1, 0, 0, .null, .int) := by decide +kernel
theorem jF_172_9 : j_F 172 9 = some (.putfield 37, 3, 3, 4, .null, .int) := by decide +kernel
theorem jF_172_12 : j_F 172 12 = some (.aload_n 0, 1, 0, 0, .null, .int) := by decide +kernel
theorem jF_172_13 : j_F 172 13 = some (.iconst 0, 1, 0, 0, .null, .int) := by decide +kernel
theorem jF_172_14 : j_F 172 14 = some (.putfield 41, 3, 3, 5, .null, .int) := by decide +kernel
theorem jF_172_17 : j_F 172 17 = some (.aload_n 0, 1, 0, 0, .null, .int) := by decide +kernel
theorem jF_172_18 : j_F 172 18 = some (.aload_n 0, 1, 0, 0, .null, .int) := by decide +kernel
theorem jF_172_19 : j_F 172 19 = some (.getfield 9, 3, 3, 0, .null, (.object "HundredWords$Tape")) := by decide +kernel
theorem jF_172_22 : j_F 172 22 = some (.invokevirtual 44, 3, 37, 1, .null, .int) := by decide +kernel
theorem jF_172_25 : j_F 172 25 = some (.ifCond .eq 17, 3, 42, 0, .null, .int) := by decide +kernel
theorem jF_172_28 : j_F 172 28 = some (.aload_n 0, 1, 0, 0, .null, .int) := by decide +kernel
theorem jF_172_29 : j_F 172 29 = some (.getfield 9, 3, 3, 0, .null, (.object "HundredWords$Tape")) := by decide +kernel
theorem jF_172_32 : j_F 172 32 = some (.aload_n 0, 1, 0, 0, .null, .int) := by decide +kernel
theorem jF_172_33 : j_F 172 33 = some (.getfield 23, 3, 3, 1, .null, (.array .int)) := by decide +kernel
theorem jF_172_36 : j_F 172 36 = some (.invokevirtual 48, 3, 41, 2, .null, .int) := by decide +kernel
theorem jF_172_39 : j_F 172 39 = some (.goto 4, 3, 43, 0, .null, .int) := by decide +kernel
theorem jF_172_42 : j_F 172 42 = some (.iconst (-1), 1, 0, 0, .null, .int) := by decide +kernel
theorem jF_172_43 : j_F 172 43 = some (.putfield 52, 3, 3, 6, .null, .int) := by decide +kernel
theorem jF_172_46 : j_F 172 46 = some (.aload_n 0, 1, 0, 0, .null, .int) := by decide +kernel
theorem jF_172_47 : j_F 172 47 = some (.getfield 52, 3, 3, 6, .null, .int) := by decide +kernel
theorem jF_172_50 : j_F 172 50 = some (.iconst (-1), 1, 0, 0, .null, .int) := by decide +kernel
theorem jF_172_51 : j_F 172 51 = some (.if_icmp .eq 11, 3, 62, 0, .null, .int) := by decide +kernel
theorem jF_172_54 : j_F 172 54 = some (.aload_n 0, 1, 0, 0, .null, .int) := by decide +kernel
theorem jF_172_55 : j_F 172 55 = some (.getfield 52, 3, 3, 6, .null, .int) := by decide +kernel
theorem jF_172_58 : j_F 172 58 = some (.iconst 5, 1, 0, 0, .null, .int) := by decide +kernel
theorem jF_172_59 : j_F 172 59 = some (.if_icmp .le 19, 3, 78, 0, .null, .int) := by decide +kernel
theorem jF_172_62 : j_F 172 62 = some (.aload_n 0, 1, 0, 0, .null, .int) := by decide +kernel
theorem jF_172_63 : j_F 172 63 = some (.getfield 9, 3, 3, 0, .null, (.object "HundredWords$Tape")) := by decide +kernel
theorem jF_172_66 : j_F 172 66 = some (.iconst 1, 1, 0, 0, .null, .int) := by decide +kernel
theorem jF_172_67 : j_F 172 67 = some (.aload_n 0, 1, 0, 0, .null, .int) := by decide +kernel
theorem jF_172_68 : j_F 172 68 = some (.getfield 9, 3, 3, 0, .null, (.object "HundredWords$Tape")) := by decide +kernel
theorem jF_172_71 : j_F 172 71 = some (.getfield 55, 3, 6, 2, .null, .int) := by decide +kernel
theorem jF_172_74 : j_F 172 74 = some (.invokevirtual 58, 3, 42, 3, .null, .int) := by decide +kernel
theorem jF_172_77 : j_F 172 77 = some (.ireturn, 1, 0, 0, .null, .boolean) := by decide +kernel
theorem jF_172_78 : j_F 172 78 = some (.aload_n 0, 1, 0, 0, .null, .int) := by decide +kernel
theorem jF_172_79 : j_F 172 79 = some (.getfield 9, 3, 3, 0, .null, (.object "HundredWords$Tape")) := by decide +kernel
theorem jF_172_82 : j_F 172 82 = some (.invokevirtual 62, 3, 45, 1, .null, .int) := by decide +kernel
theorem jF_172_85 : j_F 172 85 = some (.aload_n 0, 1, 0, 0, .null, .int) := by decide +kernel
theorem jF_172_86 : j_F 172 86 = some (.getfield 52, 3, 3, 6, .null, .int) := by decide +kernel
theorem jF_172_89 : j_F 172 89 = some (.iconst 2, 1, 0, 0, .null, .int) := by decide +kernel
theorem jF_172_90 : j_F 172 90 = some (.if_icmp .gt 13, 3, 103, 0, .null, .int) := by decide +kernel
theorem jF_172_93 : j_F 172 93 = some (.aload_n 0, 1, 0, 0, .null, .int) := by decide +kernel
theorem jF_172_94 : j_F 172 94 = some (.invokevirtual 65, 3, 173, 1, .null, .int) := by decide +kernel
theorem jF_172_97 : j_F 172 97 = some (.ifCond .eq 13, 3, 110, 0, .null, .int) := by decide +kernel
theorem jF_172_100 : j_F 172 100 = some (.goto 12, 3, 112, 0, .null, .int) := by decide +kernel
theorem jF_172_103 : j_F 172 103 = some (.aload_n 0, 1, 0, 0, .null, .int) := by decide +kernel
theorem jF_172_104 : j_F 172 104 = some (.invokevirtual 68, 3, 182, 1, .null, .int) := by decide +kernel
theorem jF_172_107 : j_F 172 107 = some (.ifCond .ne 5, 3, 112, 0, .null, .int) := by decide +kernel
theorem jF_172_110 : j_F 172 110 = some (.iconst 0, 1, 0, 0, .null, .int) := by decide +kernel
theorem jF_172_111 : j_F 172 111 = some (.ireturn, 1, 0, 0, .null, .boolean) := by decide +kernel
theorem jF_172_112 : j_F 172 112 = some (.aload_n 0, 1, 0, 0, .null, .int) := by decide +kernel
theorem jF_172_113 : j_F 172 113 = some (.getfield 9, 3, 3, 0, .null, (.object "HundredWords$Tape")) := by decide +kernel
theorem jF_172_116 : j_F 172 116 = some (.invokevirtual 71, 3, 35, 1, .null, .int) := by decide +kernel
theorem jF_172_119 : j_F 172 119 = some (.iconst (-1), 1, 0, 0, .null, .int) := by decide +kernel
theorem jF_172_120 : j_F 172 120 = some (.if_icmp .eq 21, 3, 141, 0, .null, .int) := by decide +kernel
theorem jF_172_123 : j_F 172 123 = some (.aload_n 0, 1, 0, 0, .null, .int) := by decide +kernel
theorem jF_172_124 : j_F 172 124 = some (.getfield 9, 3, 3, 0, .null, (.object "HundredWords$Tape")) := by decide +kernel
theorem jF_172_127 : j_F 172 127 = some (.iconst 1, 1, 0, 0, .null, .int) := by decide +kernel
theorem jF_172_128 : j_F 172 128 = some (.aload_n 0, 1, 0, 0, .null, .int) := by decide +kernel
theorem jF_172_129 : j_F 172 129 = some (.getfield 9, 3, 3, 0, .null, (.object "HundredWords$Tape")) := by decide +kernel
theorem jF_172_132 : j_F 172 132 = some (.getfield 55, 3, 6, 2, .null, .int) := by decide +kernel
theorem jF_172_135 : j_F 172 135 = some (.invokevirtual 58, 3, 42, 3, .null, .int) := by decide +kernel
theorem jF_172_138 : j_F 172 138 = some (.ifCond .eq 7, 3, 145, 0, .null, .int) := by decide +kernel
theorem jF_172_141 : j_F 172 141 = some (.iconst 1, 1, 0, 0, .null, .int) := by decide +kernel
theorem jF_172_142 : j_F 172 142 = some (.goto 4, 3, 146, 0, .null, .int) := by decide +kernel
theorem jF_172_145 : j_F 172 145 = some (.iconst 0, 1, 0, 0, .null, .int) := by decide +kernel
theorem jF_172_146 : j_F 172 146 = some (.ireturn, 1, 0, 0, .null, .boolean) := by decide +kernel
theorem jF_173_0 : j_F 173 0 = some (.aload_n 0, 1, 0, 0, .null, .int) := by decide +kernel
theorem jF_173_1 : j_F 173 1 = some (.invokevirtual 75, 3, 174, 1, .null, .int) := by decide +kernel
theorem jF_173_4 : j_F 173 4 = some (.ifCond .ne 5, 3, 9, 0, .null, .int) := by decide +kernel
theorem jF_173_7 : j_F 173 7 = some (.iconst 0, 1, 0, 0, .null, .int) := by decide +kernel
theorem jF_173_8 : j_F 173 8 = some (.ireturn, 1, 0, 0, .null, .boolean) := by decide +kernel
theorem jF_173_9 : j_F 173 9 = some (.iconst 0, 1, 0, 0, .null, .int) := by decide +kernel
theorem jF_173_10 : j_F 173 10 = some (.istore_n 1, 1, 0, 0, .null, .int) := by decide +kernel
theorem jF_173_11 : j_F 173 11 = some (.iload_n 1, 1, 0, 0, .null, .int) := by decide +kernel
theorem jF_173_12 : j_F 173 12 = some (.sipush 1600, 3, 0, 0, .null, .int) := by decide +kernel
theorem jF_173_15 : j_F 173 15 = some (.if_icmp .ge 40, 3, 55, 0, .null, .int) := by decide +kernel
theorem jF_173_18 : j_F 173 18 = some (.aload_n 0, 1, 0, 0, .null, .int) := by decide +kernel
theorem jF_173_19 : j_F 173 19 = some (.bipush 17, 2, 0, 0, .null, .int) := by decide +kernel
theorem jF_173_21 : j_F 173 21 = some (.invokevirtual 78, 3, 178, 2, .null, .int) := by decide +kernel
theorem jF_173_24 : j_F 173 24 = some (.ifCond .eq 31, 3, 55, 0, .null, .int) := by decide +kernel
theorem jF_173_27 : j_F 173 27 = some (.aload_n 0, 1, 0, 0, .null, .int) := by decide +kernel
theorem jF_173_28 : j_F 173 28 = some (.getfield 9, 3, 3, 0, .null, (.object "HundredWords$Tape")) := by decide +kernel
theorem jF_173_31 : j_F 173 31 = some (.invokevirtual 62, 3, 45, 1, .null, .int) := by decide +kernel
theorem jF_173_34 : j_F 173 34 = some (.aload_n 0, 1, 0, 0, .null, .int) := by decide +kernel
theorem jF_173_35 : j_F 173 35 = some (.invokevirtual 75, 3, 174, 1, .null, .int) := by decide +kernel
theorem jF_173_38 : j_F 173 38 = some (.ifCond .ne 5, 3, 43, 0, .null, .int) := by decide +kernel
theorem jF_173_41 : j_F 173 41 = some (.iconst 0, 1, 0, 0, .null, .int) := by decide +kernel
theorem jF_173_42 : j_F 173 42 = some (.ireturn, 1, 0, 0, .null, .boolean) := by decide +kernel
theorem jF_173_43 : j_F 173 43 = some (.aload_n 0, 1, 0, 0, .null, .int) := by decide +kernel
theorem jF_173_44 : j_F 173 44 = some (.bipush 17, 2, 0, 0, .null, .int) := by decide +kernel
theorem jF_173_46 : j_F 173 46 = some (.invokevirtual 82, 3, 180, 2, .null, .int) := by decide +kernel
theorem jF_173_49 : j_F 173 49 = some (.iinc 1 1, 3, 0, 0, .null, .int) := by decide +kernel
theorem jF_173_52 : j_F 173 52 = some (.goto (-41), 3, 11, 0, .null, .int) := by decide +kernel
theorem jF_173_55 : j_F 173 55 = some (.iconst 1, 1, 0, 0, .null, .int) := by decide +kernel
theorem jF_173_56 : j_F 173 56 = some (.ireturn, 1, 0, 0, .null, .boolean) := by decide +kernel
theorem jF_174_0 : j_F 174 0 = some (.aload_n 0, 1, 0, 0, .null, .int) := by decide +kernel
theorem jF_174_1 : j_F 174 1 = some (.invokevirtual 86, 3, 175, 1, .null, .int) := by decide +kernel
theorem jF_174_4 : j_F 174 4 = some (.ifCond .ne 5, 3, 9, 0, .null, .int) := by decide +kernel
theorem jF_174_7 : j_F 174 7 = some (.iconst 0, 1, 0, 0, .null, .int) := by decide +kernel
theorem jF_174_8 : j_F 174 8 = some (.ireturn, 1, 0, 0, .null, .boolean) := by decide +kernel
theorem jF_174_9 : j_F 174 9 = some (.iconst 0, 1, 0, 0, .null, .int) := by decide +kernel
theorem jF_174_10 : j_F 174 10 = some (.istore_n 1, 1, 0, 0, .null, .int) := by decide +kernel
theorem jF_174_11 : j_F 174 11 = some (.iload_n 1, 1, 0, 0, .null, .int) := by decide +kernel
theorem jF_174_12 : j_F 174 12 = some (.sipush 1600, 3, 0, 0, .null, .int) := by decide +kernel
theorem jF_174_15 : j_F 174 15 = some (.if_icmp .ge 40, 3, 55, 0, .null, .int) := by decide +kernel
theorem jF_174_18 : j_F 174 18 = some (.aload_n 0, 1, 0, 0, .null, .int) := by decide +kernel
theorem jF_174_19 : j_F 174 19 = some (.bipush 16, 2, 0, 0, .null, .int) := by decide +kernel
theorem jF_174_21 : j_F 174 21 = some (.invokevirtual 78, 3, 178, 2, .null, .int) := by decide +kernel
theorem jF_174_24 : j_F 174 24 = some (.ifCond .eq 31, 3, 55, 0, .null, .int) := by decide +kernel
theorem jF_174_27 : j_F 174 27 = some (.aload_n 0, 1, 0, 0, .null, .int) := by decide +kernel
theorem jF_174_28 : j_F 174 28 = some (.getfield 9, 3, 3, 0, .null, (.object "HundredWords$Tape")) := by decide +kernel
theorem jF_174_31 : j_F 174 31 = some (.invokevirtual 62, 3, 45, 1, .null, .int) := by decide +kernel
theorem jF_174_34 : j_F 174 34 = some (.aload_n 0, 1, 0, 0, .null, .int) := by decide +kernel
theorem jF_174_35 : j_F 174 35 = some (.invokevirtual 86, 3, 175, 1, .null, .int) := by decide +kernel
theorem jF_174_38 : j_F 174 38 = some (.ifCond .ne 5, 3, 43, 0, .null, .int) := by decide +kernel
theorem jF_174_41 : j_F 174 41 = some (.iconst 0, 1, 0, 0, .null, .int) := by decide +kernel
theorem jF_174_42 : j_F 174 42 = some (.ireturn, 1, 0, 0, .null, .boolean) := by decide +kernel
theorem jF_174_43 : j_F 174 43 = some (.aload_n 0, 1, 0, 0, .null, .int) := by decide +kernel
theorem jF_174_44 : j_F 174 44 = some (.bipush 16, 2, 0, 0, .null, .int) := by decide +kernel
theorem jF_174_46 : j_F 174 46 = some (.invokevirtual 82, 3, 180, 2, .null, .int) := by decide +kernel
theorem jF_174_49 : j_F 174 49 = some (.iinc 1 1, 3, 0, 0, .null, .int) := by decide +kernel
theorem jF_174_52 : j_F 174 52 = some (.goto (-41), 3, 11, 0, .null, .int) := by decide +kernel
theorem jF_174_55 : j_F 174 55 = some (.iconst 1, 1, 0, 0, .null, .int) := by decide +kernel
theorem jF_174_56 : j_F 174 56 = some (.ireturn, 1, 0, 0, .null, .boolean) := by decide +kernel
theorem jF_175_0 : j_F 175 0 = some (.aload_n 0, 1, 0, 0, .null, .int) := by decide +kernel
theorem jF_175_1 : j_F 175 1 = some (.getfield 9, 3, 3, 0, .null, (.object "HundredWords$Tape")) := by decide +kernel
theorem jF_175_4 : j_F 175 4 = some (.invokevirtual 71, 3, 35, 1, .null, .int) := by decide +kernel
theorem jF_175_7 : j_F 175 7 = some (.bipush 91, 2, 0, 0, .null, .int) := by decide +kernel
theorem jF_175_9 : j_F 175 9 = some (.if_icmp .ne 8, 3, 17, 0, .null, .int) := by decide +kernel
theorem jF_175_12 : j_F 175 12 = some (.aload_n 0, 1, 0, 0, .null, .int) := by decide +kernel
theorem jF_175_13 : j_F 175 13 = some (.invokevirtual 89, 3, 176, 1, .null, .int) := by decide +kernel
theorem jF_175_16 : j_F 175 16 = some (.ireturn, 1, 0, 0, .null, .boolean) := by decide +kernel
theorem jF_175_17 : j_F 175 17 = some (.aload_n 0, 1, 0, 0, .null, .int) := by decide +kernel
theorem jF_175_18 : j_F 175 18 = some (.bipush 18, 2, 0, 0, .null, .int) := by decide +kernel
theorem jF_175_20 : j_F 175 20 = some (.invokevirtual 78, 3, 178, 2, .null, .int) := by decide +kernel
theorem jF_175_23 : j_F 175 23 = some (.ifCond .eq 8, 3, 31, 0, .null, .int) := by decide +kernel
theorem jF_175_26 : j_F 175 26 = some (.aload_n 0, 1, 0, 0, .null, .int) := by decide +kernel
theorem jF_175_27 : j_F 175 27 = some (.invokevirtual 92, 3, 179, 1, .null, .int) := by decide +kernel
theorem jF_175_30 : j_F 175 30 = some (.ireturn, 1, 0, 0, .null, .boolean) := by decide +kernel
theorem jF_175_31 : j_F 175 31 = some (.aload_n 0, 1, 0, 0, .null, .int) := by decide +kernel
theorem jF_175_32 : j_F 175 32 = some (.bipush 6, 2, 0, 0, .null, .int) := by decide +kernel
theorem jF_175_34 : j_F 175 34 = some (.invokevirtual 78, 3, 178, 2, .null, .int) := by decide +kernel
theorem jF_175_37 : j_F 175 37 = some (.ifCond .eq 18, 3, 55, 0, .null, .int) := by decide +kernel
theorem jF_175_40 : j_F 175 40 = some (.aload_n 0, 1, 0, 0, .null, .int) := by decide +kernel
theorem jF_175_41 : j_F 175 41 = some (.getfield 9, 3, 3, 0, .null, (.object "HundredWords$Tape")) := by decide +kernel
theorem jF_175_44 : j_F 175 44 = some (.invokevirtual 62, 3, 45, 1, .null, .int) := by decide +kernel
theorem jF_175_47 : j_F 175 47 = some (.aload_n 0, 1, 0, 0, .null, .int) := by decide +kernel
theorem jF_175_48 : j_F 175 48 = some (.bipush 6, 2, 0, 0, .null, .int) := by decide +kernel
theorem jF_175_50 : j_F 175 50 = some (.invokevirtual 82, 3, 180, 2, .null, .int) := by decide +kernel
theorem jF_175_53 : j_F 175 53 = some (.iconst 1, 1, 0, 0, .null, .int) := by decide +kernel
theorem jF_175_54 : j_F 175 54 = some (.ireturn, 1, 0, 0, .null, .boolean) := by decide +kernel
theorem jF_175_55 : j_F 175 55 = some (.aload_n 0, 1, 0, 0, .null, .int) := by decide +kernel
theorem jF_175_56 : j_F 175 56 = some (.invokevirtual 95, 3, 181, 1, .null, .int) := by decide +kernel
theorem jF_175_59 : j_F 175 59 = some (.ireturn, 1, 0, 0, .null, .boolean) := by decide +kernel
theorem jF_176_0 : j_F 176 0 = some (.aload_n 0, 1, 0, 0, .null, .int) := by decide +kernel
theorem jF_176_1 : j_F 176 1 = some (.invokevirtual 98, 3, 177, 1, .null, .int) := by decide +kernel
theorem jF_176_4 : j_F 176 4 = some (.ifCond .ne 5, 3, 9, 0, .null, .int) := by decide +kernel
theorem jF_176_7 : j_F 176 7 = some (.iconst 0, 1, 0, 0, .null, .int) := by decide +kernel
theorem jF_176_8 : j_F 176 8 = some (.ireturn, 1, 0, 0, .null, .boolean) := by decide +kernel
theorem jF_176_9 : j_F 176 9 = some (.aload_n 0, 1, 0, 0, .null, .int) := by decide +kernel
theorem jF_176_10 : j_F 176 10 = some (.getfield 9, 3, 3, 0, .null, (.object "HundredWords$Tape")) := by decide +kernel
theorem jF_176_13 : j_F 176 13 = some (.dup, 1, 0, 0, .null, .int) := by decide +kernel
theorem jF_176_14 : j_F 176 14 = some (.getfield 55, 3, 6, 2, .null, .int) := by decide +kernel
theorem jF_176_17 : j_F 176 17 = some (.iconst 1, 1, 0, 0, .null, .int) := by decide +kernel
theorem jF_176_18 : j_F 176 18 = some (.iadd, 1, 0, 0, .null, .int) := by decide +kernel
theorem jF_176_19 : j_F 176 19 = some (.putfield 55, 3, 6, 2, .null, .int) := by decide +kernel
theorem jF_176_22 : j_F 176 22 = some (.aload_n 0, 1, 0, 0, .null, .int) := by decide +kernel
theorem jF_176_23 : j_F 176 23 = some (.invokevirtual 65, 3, 173, 1, .null, .int) := by decide +kernel
theorem jF_176_26 : j_F 176 26 = some (.ifCond .eq 15, 3, 41, 0, .null, .int) := by decide +kernel
theorem jF_176_29 : j_F 176 29 = some (.aload_n 0, 1, 0, 0, .null, .int) := by decide +kernel
theorem jF_176_30 : j_F 176 30 = some (.getfield 9, 3, 3, 0, .null, (.object "HundredWords$Tape")) := by decide +kernel
theorem jF_176_33 : j_F 176 33 = some (.bipush 93, 2, 0, 0, .null, .int) := by decide +kernel
theorem jF_176_35 : j_F 176 35 = some (.invokevirtual 101, 3, 68, 2, .null, .int) := by decide +kernel
theorem jF_176_38 : j_F 176 38 = some (.ifCond .ne 5, 3, 43, 0, .null, .int) := by decide +kernel
theorem jF_176_41 : j_F 176 41 = some (.iconst 0, 1, 0, 0, .null, .int) := by decide +kernel
theorem jF_176_42 : j_F 176 42 = some (.ireturn, 1, 0, 0, .null, .boolean) := by decide +kernel
theorem jF_176_43 : j_F 176 43 = some (.aload_n 0, 1, 0, 0, .null, .int) := by decide +kernel
theorem jF_176_44 : j_F 176 44 = some (.dup, 1, 0, 0, .null, .int) := by decide +kernel
theorem jF_176_45 : j_F 176 45 = some (.getfield 41, 3, 3, 5, .null, .int) := by decide +kernel
theorem jF_176_48 : j_F 176 48 = some (.iconst 1, 1, 0, 0, .null, .int) := by decide +kernel
theorem jF_176_49 : j_F 176 49 = some (.isub, 1, 0, 0, .null, .int) := by decide +kernel
theorem jF_176_50 : j_F 176 50 = some (.putfield 41, 3, 3, 5, .null, .int) := by decide +kernel
theorem jF_176_53 : j_F 176 53 = some (.iconst 1, 1, 0, 0, .null, .int) := by decide +kernel
theorem jF_176_54 : j_F 176 54 = some (.ireturn, 1, 0, 0, .null, .boolean) := by decide +kernel
theorem jF_177_0 : j_F 177 0 = some (.aload_n 0, 1, 0, 0, .null, .int) := by decide +kernel
theorem jF_177_1 : j_F 177 1 = some (.getfield 41, 3, 3, 5, .null, .int) := by decide +kernel
theorem jF_177_4 : j_F 177 4 = some (.bipush 6, 2, 0, 0, .null, .int) := by decide +kernel
theorem jF_177_6 : j_F 177 6 = some (.if_icmp .lt 19, 3, 25, 0, .null, .int) := by decide +kernel
theorem jF_177_9 : j_F 177 9 = some (.aload_n 0, 1, 0, 0, .null, .int) := by decide +kernel
theorem jF_177_10 : j_F 177 10 = some (.getfield 9, 3, 3, 0, .null, (.object "HundredWords$Tape")) := by decide +kernel
theorem jF_177_13 : j_F 177 13 = some (.iconst 4, 1, 0, 0, .null, .int) := by decide +kernel
theorem jF_177_14 : j_F 177 14 = some (.aload_n 0, 1, 0, 0, .null, .int) := by decide +kernel
theorem jF_177_15 : j_F 177 15 = some (.getfield 9, 3, 3, 0, .null, (.object "HundredWords$Tape")) := by decide +kernel
theorem jF_177_18 : j_F 177 18 = some (.getfield 55, 3, 6, 2, .null, .int) := by decide +kernel
theorem jF_177_21 : j_F 177 21 = some (.invokevirtual 58, 3, 42, 3, .null, .int) := by decide +kernel
theorem jF_177_24 : j_F 177 24 = some (.ireturn, 1, 0, 0, .null, .boolean) := by decide +kernel
theorem jF_177_25 : j_F 177 25 = some (.aload_n 0, 1, 0, 0, .null, .int) := by decide +kernel
theorem jF_177_26 : j_F 177 26 = some (.dup, 1, 0, 0, .null, .int) := by decide +kernel
theorem jF_177_27 : j_F 177 27 = some (.getfield 41, 3, 3, 5, .null, .int) := by decide +kernel
theorem jF_177_30 : j_F 177 30 = some (.iconst 1, 1, 0, 0, .null, .int) := by decide +kernel
theorem jF_177_31 : j_F 177 31 = some (.iadd, 1, 0, 0, .null, .int) := by decide +kernel
theorem jF_177_32 : j_F 177 32 = some (.putfield 41, 3, 3, 5, .null, .int) := by decide +kernel
theorem jF_177_35 : j_F 177 35 = some (.iconst 1, 1, 0, 0, .null, .int) := by decide +kernel
theorem jF_177_36 : j_F 177 36 = some (.ireturn, 1, 0, 0, .null, .boolean) := by decide +kernel
theorem jF_178_0 : j_F 178 0 = some (.aload_n 0, 1, 0, 0, .null, .int) := by decide +kernel
theorem jF_178_1 : j_F 178 1 = some (.getfield 9, 3, 3, 0, .null, (.object "HundredWords$Tape")) := by decide +kernel
theorem jF_178_4 : j_F 178 4 = some (.invokevirtual 44, 3, 37, 1, .null, .int) := by decide +kernel
theorem jF_178_7 : j_F 178 7 = some (.ifCond .eq 22, 3, 29, 0, .null, .int) := by decide +kernel
theorem jF_178_10 : j_F 178 10 = some (.aload_n 0, 1, 0, 0, .null, .int) := by decide +kernel
theorem jF_178_11 : j_F 178 11 = some (.getfield 9, 3, 3, 0, .null, (.object "HundredWords$Tape")) := by decide +kernel
theorem jF_178_14 : j_F 178 14 = some (.aload_n 0, 1, 0, 0, .null, .int) := by decide +kernel
theorem jF_178_15 : j_F 178 15 = some (.getfield 23, 3, 3, 1, .null, (.array .int)) := by decide +kernel
theorem jF_178_18 : j_F 178 18 = some (.invokevirtual 48, 3, 41, 2, .null, .int) := by decide +kernel
theorem jF_178_21 : j_F 178 21 = some (.iload_n 1, 1, 0, 0, .null, .int) := by decide +kernel
theorem jF_178_22 : j_F 178 22 = some (.if_icmp .ne 7, 3, 29, 0, .null, .int) := by decide +kernel
theorem jF_178_25 : j_F 178 25 = some (.iconst 1, 1, 0, 0, .null, .int) := by decide +kernel
theorem jF_178_26 : j_F 178 26 = some (.goto 4, 3, 30, 0, .null, .int) := by decide +kernel
theorem jF_178_29 : j_F 178 29 = some (.iconst 0, 1, 0, 0, .null, .int) := by decide +kernel
theorem jF_178_30 : j_F 178 30 = some (.ireturn, 1, 0, 0, .null, .boolean) := by decide +kernel
theorem jF_179_0 : j_F 179 0 = some (.aload_n 0, 1, 0, 0, .null, .int) := by decide +kernel
theorem jF_179_1 : j_F 179 1 = some (.invokevirtual 98, 3, 177, 1, .null, .int) := by decide +kernel
theorem jF_179_4 : j_F 179 4 = some (.ifCond .ne 5, 3, 9, 0, .null, .int) := by decide +kernel
theorem jF_179_7 : j_F 179 7 = some (.iconst 0, 1, 0, 0, .null, .int) := by decide +kernel
theorem jF_179_8 : j_F 179 8 = some (.ireturn, 1, 0, 0, .null, .boolean) := by decide +kernel
theorem jF_179_9 : j_F 179 9 = some (.aload_n 0, 1, 0, 0, .null, .int) := by decide +kernel
theorem jF_179_10 : j_F 179 10 = some (.getfield 9, 3, 3, 0, .null, (.object "HundredWords$Tape")) := by decide +kernel
theorem jF_179_13 : j_F 179 13 = some (.invokevirtual 62, 3, 45, 1, .null, .int) := by decide +kernel
theorem jF_179_16 : j_F 179 16 = some (.aload_n 0, 1, 0, 0, .null, .int) := by decide +kernel
theorem jF_179_17 : j_F 179 17 = some (.invokevirtual 86, 3, 175, 1, .null, .int) := by decide +kernel
theorem jF_179_20 : j_F 179 20 = some (.ifCond .ne 5, 3, 25, 0, .null, .int) := by decide +kernel
theorem jF_179_23 : j_F 179 23 = some (.iconst 0, 1, 0, 0, .null, .int) := by decide +kernel
theorem jF_179_24 : j_F 179 24 = some (.ireturn, 1, 0, 0, .null, .boolean) := by decide +kernel
theorem jF_179_25 : j_F 179 25 = some (.aload_n 0, 1, 0, 0, .null, .int) := by decide +kernel
theorem jF_179_26 : j_F 179 26 = some (.dup, 1, 0, 0, .null, .int) := by decide +kernel
theorem jF_179_27 : j_F 179 27 = some (.getfield 41, 3, 3, 5, .null, .int) := by decide +kernel
theorem jF_179_30 : j_F 179 30 = some (.iconst 1, 1, 0, 0, .null, .int) := by decide +kernel
theorem jF_179_31 : j_F 179 31 = some (.isub, 1, 0, 0, .null, .int) := by decide +kernel
theorem jF_179_32 : j_F 179 32 = some (.putfield 41, 3, 3, 5, .null, .int) := by decide +kernel
theorem jF_179_35 : j_F 179 35 = some (.aload_n 0, 1, 0, 0, .null, .int) := by decide +kernel
theorem jF_179_36 : j_F 179 36 = some (.bipush 18, 2, 0, 0, .null, .int) := by decide +kernel
theorem jF_179_38 : j_F 179 38 = some (.invokevirtual 82, 3, 180, 2, .null, .int) := by decide +kernel
theorem jF_179_41 : j_F 179 41 = some (.iconst 1, 1, 0, 0, .null, .int) := by decide +kernel
theorem jF_179_42 : j_F 179 42 = some (.ireturn, 1, 0, 0, .null, .boolean) := by decide +kernel
theorem jF_180_0 : j_F 180 0 = some (.aload_n 0, 1, 0, 0, .null, .int) := by decide +kernel
theorem jF_180_1 : j_F 180 1 = some (.getfield 37, 3, 3, 4, .null, .int) := by decide +kernel
theorem jF_180_4 : j_F 180 4 = some (.aload_n 0, 1, 0, 0, .null, .int) := by decide +kernel
theorem jF_180_5 : j_F 180 5 = some (.getfield 27, 3, 3, 2, .null, (.array .int)) := by decide +kernel
theorem jF_180_8 : j_F 180 8 = some (.arraylength, 1, 0, 0, .null, .int) := by decide +kernel
theorem jF_180_9 : j_F 180 9 = some (.if_icmp .ge 23, 3, 32, 0, .null, .int) := by decide +kernel
theorem jF_180_12 : j_F 180 12 = some (.aload_n 0, 1, 0, 0, .null, .int) := by decide +kernel
theorem jF_180_13 : j_F 180 13 = some (.getfield 27, 3, 3, 2, .null, (.array .int)) := by decide +kernel
theorem jF_180_16 : j_F 180 16 = some (.aload_n 0, 1, 0, 0, .null, .int) := by decide +kernel
theorem jF_180_17 : j_F 180 17 = some (.getfield 37, 3, 3, 4, .null, .int) := by decide +kernel
theorem jF_180_20 : j_F 180 20 = some (.iload_n 1, 1, 0, 0, .null, .int) := by decide +kernel
theorem jF_180_21 : j_F 180 21 = some (.iastore, 1, 0, 0, .null, .int) := by decide +kernel
theorem jF_180_22 : j_F 180 22 = some (.aload_n 0, 1, 0, 0, .null, .int) := by decide +kernel
theorem jF_180_23 : j_F 180 23 = some (.dup, 1, 0, 0, .null, .int) := by decide +kernel
theorem jF_180_24 : j_F 180 24 = some (.getfield 37, 3, 3, 4, .null, .int) := by decide +kernel
theorem jF_180_27 : j_F 180 27 = some (.iconst 1, 1, 0, 0, .null, .int) := by decide +kernel
theorem jF_180_28 : j_F 180 28 = some (.iadd, 1, 0, 0, .null, .int) := by decide +kernel
theorem jF_180_29 : j_F 180 29 = some (.putfield 37, 3, 3, 4, .null, .int) := by decide +kernel
theorem jF_180_32 : j_F 180 32 = some (.return_, 1, 0, 0, .null, .int) := by decide +kernel
theorem jF_181_0 : j_F 181 0 = some (.aload_n 0, 1, 0, 0, .null, .int) := by decide +kernel
theorem jF_181_1 : j_F 181 1 = some (.invokevirtual 68, 3, 182, 1, .null, .int) := by decide +kernel
theorem jF_181_4 : j_F 181 4 = some (.ifCond .ne 5, 3, 9, 0, .null, .int) := by decide +kernel
theorem jF_181_7 : j_F 181 7 = some (.iconst 0, 1, 0, 0, .null, .int) := by decide +kernel
theorem jF_181_8 : j_F 181 8 = some (.ireturn, 1, 0, 0, .null, .boolean) := by decide +kernel
theorem jF_181_9 : j_F 181 9 = some (.aload_n 0, 1, 0, 0, .null, .int) := by decide +kernel
theorem jF_181_10 : j_F 181 10 = some (.getfield 9, 3, 3, 0, .null, (.object "HundredWords$Tape")) := by decide +kernel
theorem jF_181_13 : j_F 181 13 = some (.invokevirtual 71, 3, 35, 1, .null, .int) := by decide +kernel
theorem jF_181_16 : j_F 181 16 = some (.istore_n 1, 1, 0, 0, .null, .int) := by decide +kernel
theorem jF_181_17 : j_F 181 17 = some (.iload_n 1, 1, 0, 0, .null, .int) := by decide +kernel
theorem jF_181_18 : j_F 181 18 = some (.bipush 60, 2, 0, 0, .null, .int) := by decide +kernel
theorem jF_181_20 : j_F 181 20 = some (.if_icmp .eq 31, 3, 51, 0, .null, .int) := by decide +kernel
theorem jF_181_23 : j_F 181 23 = some (.iload_n 1, 1, 0, 0, .null, .int) := by decide +kernel
theorem jF_181_24 : j_F 181 24 = some (.bipush 62, 2, 0, 0, .null, .int) := by decide +kernel
theorem jF_181_26 : j_F 181 26 = some (.if_icmp .eq 25, 3, 51, 0, .null, .int) := by decide +kernel
theorem jF_181_29 : j_F 181 29 = some (.iload_n 1, 1, 0, 0, .null, .int) := by decide +kernel
theorem jF_181_30 : j_F 181 30 = some (.bipush 61, 2, 0, 0, .null, .int) := by decide +kernel
theorem jF_181_32 : j_F 181 32 = some (.if_icmp .eq 19, 3, 51, 0, .null, .int) := by decide +kernel
theorem jF_181_35 : j_F 181 35 = some (.aload_n 0, 1, 0, 0, .null, .int) := by decide +kernel
theorem jF_181_36 : j_F 181 36 = some (.getfield 9, 3, 3, 0, .null, (.object "HundredWords$Tape")) := by decide +kernel
theorem jF_181_39 : j_F 181 39 = some (.iconst 1, 1, 0, 0, .null, .int) := by decide +kernel
theorem jF_181_40 : j_F 181 40 = some (.aload_n 0, 1, 0, 0, .null, .int) := by decide +kernel
theorem jF_181_41 : j_F 181 41 = some (.getfield 9, 3, 3, 0, .null, (.object "HundredWords$Tape")) := by decide +kernel
theorem jF_181_44 : j_F 181 44 = some (.getfield 55, 3, 6, 2, .null, .int) := by decide +kernel
theorem jF_181_47 : j_F 181 47 = some (.invokevirtual 58, 3, 42, 3, .null, .int) := by decide +kernel
theorem jF_181_50 : j_F 181 50 = some (.ireturn, 1, 0, 0, .null, .boolean) := by decide +kernel
theorem jF_181_51 : j_F 181 51 = some (.aload_n 0, 1, 0, 0, .null, .int) := by decide +kernel
theorem jF_181_52 : j_F 181 52 = some (.getfield 9, 3, 3, 0, .null, (.object "HundredWords$Tape")) := by decide +kernel
theorem jF_181_55 : j_F 181 55 = some (.dup, 1, 0, 0, .null, .int) := by decide +kernel
theorem jF_181_56 : j_F 181 56 = some (.getfield 55, 3, 6, 2, .null, .int) := by decide +kernel
theorem jF_181_59 : j_F 181 59 = some (.iconst 1, 1, 0, 0, .null, .int) := by decide +kernel
theorem jF_181_60 : j_F 181 60 = some (.iadd, 1, 0, 0, .null, .int) := by decide +kernel
theorem jF_181_61 : j_F 181 61 = some (.putfield 55, 3, 6, 2, .null, .int) := by decide +kernel
theorem jF_181_64 : j_F 181 64 = some (.aload_n 0, 1, 0, 0, .null, .int) := by decide +kernel
theorem jF_181_65 : j_F 181 65 = some (.invokevirtual 68, 3, 182, 1, .null, .int) := by decide +kernel
theorem jF_181_68 : j_F 181 68 = some (.ifCond .ne 5, 3, 73, 0, .null, .int) := by decide +kernel
theorem jF_181_71 : j_F 181 71 = some (.iconst 0, 1, 0, 0, .null, .int) := by decide +kernel
theorem jF_181_72 : j_F 181 72 = some (.ireturn, 1, 0, 0, .null, .boolean) := by decide +kernel
theorem jF_181_73 : j_F 181 73 = some (.aload_n 0, 1, 0, 0, .null, .int) := by decide +kernel
theorem jF_181_74 : j_F 181 74 = some (.iload_n 1, 1, 0, 0, .null, .int) := by decide +kernel
theorem jF_181_75 : j_F 181 75 = some (.invokevirtual 82, 3, 180, 2, .null, .int) := by decide +kernel
theorem jF_181_78 : j_F 181 78 = some (.iconst 1, 1, 0, 0, .null, .int) := by decide +kernel
theorem jF_181_79 : j_F 181 79 = some (.ireturn, 1, 0, 0, .null, .boolean) := by decide +kernel
theorem jF_182_0 : j_F 182 0 = some (.aload_n 0, 1, 0, 0, .null, .int) := by decide +kernel
theorem jF_182_1 : j_F 182 1 = some (.invokevirtual 104, 3, 183, 1, .null, .int) := by decide +kernel
theorem jF_182_4 : j_F 182 4 = some (.ifCond .ne 5, 3, 9, 0, .null, .int) := by decide +kernel
theorem jF_182_7 : j_F 182 7 = some (.iconst 0, 1, 0, 0, .null, .int) := by decide +kernel
theorem jF_182_8 : j_F 182 8 = some (.ireturn, 1, 0, 0, .null, .boolean) := by decide +kernel
theorem jF_182_9 : j_F 182 9 = some (.iconst 0, 1, 0, 0, .null, .int) := by decide +kernel
theorem jF_182_10 : j_F 182 10 = some (.istore_n 1, 1, 0, 0, .null, .int) := by decide +kernel
theorem jF_182_11 : j_F 182 11 = some (.iload_n 1, 1, 0, 0, .null, .int) := by decide +kernel
theorem jF_182_12 : j_F 182 12 = some (.sipush 1600, 3, 0, 0, .null, .int) := by decide +kernel
theorem jF_182_15 : j_F 182 15 = some (.if_icmp .ge 68, 3, 83, 0, .null, .int) := by decide +kernel
theorem jF_182_18 : j_F 182 18 = some (.aload_n 0, 1, 0, 0, .null, .int) := by decide +kernel
theorem jF_182_19 : j_F 182 19 = some (.getfield 9, 3, 3, 0, .null, (.object "HundredWords$Tape")) := by decide +kernel
theorem jF_182_22 : j_F 182 22 = some (.invokevirtual 71, 3, 35, 1, .null, .int) := by decide +kernel
theorem jF_182_25 : j_F 182 25 = some (.bipush 43, 2, 0, 0, .null, .int) := by decide +kernel
theorem jF_182_27 : j_F 182 27 = some (.if_icmp .eq 15, 3, 42, 0, .null, .int) := by decide +kernel
theorem jF_182_30 : j_F 182 30 = some (.aload_n 0, 1, 0, 0, .null, .int) := by decide +kernel
theorem jF_182_31 : j_F 182 31 = some (.getfield 9, 3, 3, 0, .null, (.object "HundredWords$Tape")) := by decide +kernel
theorem jF_182_34 : j_F 182 34 = some (.invokevirtual 71, 3, 35, 1, .null, .int) := by decide +kernel
theorem jF_182_37 : j_F 182 37 = some (.bipush 45, 2, 0, 0, .null, .int) := by decide +kernel
theorem jF_182_39 : j_F 182 39 = some (.if_icmp .ne 44, 3, 83, 0, .null, .int) := by decide +kernel
theorem jF_182_42 : j_F 182 42 = some (.aload_n 0, 1, 0, 0, .null, .int) := by decide +kernel
theorem jF_182_43 : j_F 182 43 = some (.getfield 9, 3, 3, 0, .null, (.object "HundredWords$Tape")) := by decide +kernel
theorem jF_182_46 : j_F 182 46 = some (.invokevirtual 71, 3, 35, 1, .null, .int) := by decide +kernel
theorem jF_182_49 : j_F 182 49 = some (.istore_n 2, 1, 0, 0, .null, .int) := by decide +kernel
theorem jF_182_50 : j_F 182 50 = some (.aload_n 0, 1, 0, 0, .null, .int) := by decide +kernel
theorem jF_182_51 : j_F 182 51 = some (.getfield 9, 3, 3, 0, .null, (.object "HundredWords$Tape")) := by decide +kernel
theorem jF_182_54 : j_F 182 54 = some (.dup, 1, 0, 0, .null, .int) := by decide +kernel
theorem jF_182_55 : j_F 182 55 = some (.getfield 55, 3, 6, 2, .null, .int) := by decide +kernel
theorem jF_182_58 : j_F 182 58 = some (.iconst 1, 1, 0, 0, .null, .int) := by decide +kernel
theorem jF_182_59 : j_F 182 59 = some (.iadd, 1, 0, 0, .null, .int) := by decide +kernel
theorem jF_182_60 : j_F 182 60 = some (.putfield 55, 3, 6, 2, .null, .int) := by decide +kernel
theorem jF_182_63 : j_F 182 63 = some (.aload_n 0, 1, 0, 0, .null, .int) := by decide +kernel
theorem jF_182_64 : j_F 182 64 = some (.invokevirtual 104, 3, 183, 1, .null, .int) := by decide +kernel
theorem jF_182_67 : j_F 182 67 = some (.ifCond .ne 5, 3, 72, 0, .null, .int) := by decide +kernel
theorem jF_182_70 : j_F 182 70 = some (.iconst 0, 1, 0, 0, .null, .int) := by decide +kernel
theorem jF_182_71 : j_F 182 71 = some (.ireturn, 1, 0, 0, .null, .boolean) := by decide +kernel
theorem jF_182_72 : j_F 182 72 = some (.aload_n 0, 1, 0, 0, .null, .int) := by decide +kernel
theorem jF_182_73 : j_F 182 73 = some (.iload_n 2, 1, 0, 0, .null, .int) := by decide +kernel
theorem jF_182_74 : j_F 182 74 = some (.invokevirtual 82, 3, 180, 2, .null, .int) := by decide +kernel
theorem jF_182_77 : j_F 182 77 = some (.iinc 1 1, 3, 0, 0, .null, .int) := by decide +kernel
theorem jF_182_80 : j_F 182 80 = some (.goto (-69), 3, 11, 0, .null, .int) := by decide +kernel
theorem jF_182_83 : j_F 182 83 = some (.iconst 1, 1, 0, 0, .null, .int) := by decide +kernel
theorem jF_182_84 : j_F 182 84 = some (.ireturn, 1, 0, 0, .null, .boolean) := by decide +kernel
theorem jF_183_0 : j_F 183 0 = some (.aload_n 0, 1, 0, 0, .null, .int) := by decide +kernel
theorem jF_183_1 : j_F 183 1 = some (.invokevirtual 107, 3, 184, 1, .null, .int) := by decide +kernel
theorem jF_183_4 : j_F 183 4 = some (.ifCond .ne 5, 3, 9, 0, .null, .int) := by decide +kernel
theorem jF_183_7 : j_F 183 7 = some (.iconst 0, 1, 0, 0, .null, .int) := by decide +kernel
theorem jF_183_8 : j_F 183 8 = some (.ireturn, 1, 0, 0, .null, .boolean) := by decide +kernel
theorem jF_183_9 : j_F 183 9 = some (.iconst 0, 1, 0, 0, .null, .int) := by decide +kernel
theorem jF_183_10 : j_F 183 10 = some (.istore_n 1, 1, 0, 0, .null, .int) := by decide +kernel
theorem jF_183_11 : j_F 183 11 = some (.iload_n 1, 1, 0, 0, .null, .int) := by decide +kernel
theorem jF_183_12 : j_F 183 12 = some (.sipush 1600, 3, 0, 0, .null, .int) := by decide +kernel
theorem jF_183_15 : j_F 183 15 = some (.if_icmp .ge 68, 3, 83, 0, .null, .int) := by decide +kernel
theorem jF_183_18 : j_F 183 18 = some (.aload_n 0, 1, 0, 0, .null, .int) := by decide +kernel
theorem jF_183_19 : j_F 183 19 = some (.getfield 9, 3, 3, 0, .null, (.object "HundredWords$Tape")) := by decide +kernel
theorem jF_183_22 : j_F 183 22 = some (.invokevirtual 71, 3, 35, 1, .null, .int) := by decide +kernel
theorem jF_183_25 : j_F 183 25 = some (.bipush 42, 2, 0, 0, .null, .int) := by decide +kernel
theorem jF_183_27 : j_F 183 27 = some (.if_icmp .eq 15, 3, 42, 0, .null, .int) := by decide +kernel
theorem jF_183_30 : j_F 183 30 = some (.aload_n 0, 1, 0, 0, .null, .int) := by decide +kernel
theorem jF_183_31 : j_F 183 31 = some (.getfield 9, 3, 3, 0, .null, (.object "HundredWords$Tape")) := by decide +kernel
theorem jF_183_34 : j_F 183 34 = some (.invokevirtual 71, 3, 35, 1, .null, .int) := by decide +kernel
theorem jF_183_37 : j_F 183 37 = some (.bipush 47, 2, 0, 0, .null, .int) := by decide +kernel
theorem jF_183_39 : j_F 183 39 = some (.if_icmp .ne 44, 3, 83, 0, .null, .int) := by decide +kernel
theorem jF_183_42 : j_F 183 42 = some (.aload_n 0, 1, 0, 0, .null, .int) := by decide +kernel
theorem jF_183_43 : j_F 183 43 = some (.getfield 9, 3, 3, 0, .null, (.object "HundredWords$Tape")) := by decide +kernel
theorem jF_183_46 : j_F 183 46 = some (.invokevirtual 71, 3, 35, 1, .null, .int) := by decide +kernel
theorem jF_183_49 : j_F 183 49 = some (.istore_n 2, 1, 0, 0, .null, .int) := by decide +kernel
theorem jF_183_50 : j_F 183 50 = some (.aload_n 0, 1, 0, 0, .null, .int) := by decide +kernel
theorem jF_183_51 : j_F 183 51 = some (.getfield 9, 3, 3, 0, .null, (.object "HundredWords$Tape")) := by decide +kernel
theorem jF_183_54 : j_F 183 54 = some (.dup, 1, 0, 0, .null, .int) := by decide +kernel
theorem jF_183_55 : j_F 183 55 = some (.getfield 55, 3, 6, 2, .null, .int) := by decide +kernel
theorem jF_183_58 : j_F 183 58 = some (.iconst 1, 1, 0, 0, .null, .int) := by decide +kernel
theorem jF_183_59 : j_F 183 59 = some (.iadd, 1, 0, 0, .null, .int) := by decide +kernel
theorem jF_183_60 : j_F 183 60 = some (.putfield 55, 3, 6, 2, .null, .int) := by decide +kernel
theorem jF_183_63 : j_F 183 63 = some (.aload_n 0, 1, 0, 0, .null, .int) := by decide +kernel
theorem jF_183_64 : j_F 183 64 = some (.invokevirtual 107, 3, 184, 1, .null, .int) := by decide +kernel
theorem jF_183_67 : j_F 183 67 = some (.ifCond .ne 5, 3, 72, 0, .null, .int) := by decide +kernel
theorem jF_183_70 : j_F 183 70 = some (.iconst 0, 1, 0, 0, .null, .int) := by decide +kernel
theorem jF_183_71 : j_F 183 71 = some (.ireturn, 1, 0, 0, .null, .boolean) := by decide +kernel
theorem jF_183_72 : j_F 183 72 = some (.aload_n 0, 1, 0, 0, .null, .int) := by decide +kernel
theorem jF_183_73 : j_F 183 73 = some (.iload_n 2, 1, 0, 0, .null, .int) := by decide +kernel
theorem jF_183_74 : j_F 183 74 = some (.invokevirtual 82, 3, 180, 2, .null, .int) := by decide +kernel
theorem jF_183_77 : j_F 183 77 = some (.iinc 1 1, 3, 0, 0, .null, .int) := by decide +kernel
theorem jF_183_80 : j_F 183 80 = some (.goto (-69), 3, 11, 0, .null, .int) := by decide +kernel
theorem jF_183_83 : j_F 183 83 = some (.iconst 1, 1, 0, 0, .null, .int) := by decide +kernel
theorem jF_183_84 : j_F 183 84 = some (.ireturn, 1, 0, 0, .null, .boolean) := by decide +kernel
theorem jF_184_0 : j_F 184 0 = some (.aload_n 0, 1, 0, 0, .null, .int) := by decide +kernel
theorem jF_184_1 : j_F 184 1 = some (.getfield 9, 3, 3, 0, .null, (.object "HundredWords$Tape")) := by decide +kernel
theorem jF_184_4 : j_F 184 4 = some (.invokevirtual 71, 3, 35, 1, .null, .int) := by decide +kernel
theorem jF_184_7 : j_F 184 7 = some (.istore_n 1, 1, 0, 0, .null, .int) := by decide +kernel
theorem jF_184_8 : j_F 184 8 = some (.iload_n 1, 1, 0, 0, .null, .int) := by decide +kernel
theorem jF_184_9 : j_F 184 9 = some (.bipush 48, 2, 0, 0, .null, .int) := by decide +kernel
theorem jF_184_11 : j_F 184 11 = some (.if_icmp .lt 14, 3, 25, 0, .null, .int) := by decide +kernel
theorem jF_184_14 : j_F 184 14 = some (.iload_n 1, 1, 0, 0, .null, .int) := by decide +kernel
theorem jF_184_15 : j_F 184 15 = some (.bipush 57, 2, 0, 0, .null, .int) := by decide +kernel
theorem jF_184_17 : j_F 184 17 = some (.if_icmp .gt 8, 3, 25, 0, .null, .int) := by decide +kernel
theorem jF_184_20 : j_F 184 20 = some (.aload_n 0, 1, 0, 0, .null, .int) := by decide +kernel
theorem jF_184_21 : j_F 184 21 = some (.invokevirtual 110, 3, 185, 1, .null, .int) := by decide +kernel
theorem jF_184_24 : j_F 184 24 = some (.ireturn, 1, 0, 0, .null, .boolean) := by decide +kernel
theorem jF_184_25 : j_F 184 25 = some (.iload_n 1, 1, 0, 0, .null, .int) := by decide +kernel
theorem jF_184_26 : j_F 184 26 = some (.bipush 40, 2, 0, 0, .null, .int) := by decide +kernel
theorem jF_184_28 : j_F 184 28 = some (.if_icmp .ne 9, 3, 37, 0, .null, .int) := by decide +kernel
theorem jF_184_31 : j_F 184 31 = some (.aload_n 0, 1, 0, 0, .null, .int) := by decide +kernel
theorem jF_184_32 : j_F 184 32 = some (.iconst (-1), 1, 0, 0, .null, .int) := by decide +kernel
theorem jF_184_33 : j_F 184 33 = some (.invokevirtual 113, 3, 186, 2, .null, .int) := by decide +kernel
theorem jF_184_36 : j_F 184 36 = some (.ireturn, 1, 0, 0, .null, .boolean) := by decide +kernel
theorem jF_184_37 : j_F 184 37 = some (.aload_n 0, 1, 0, 0, .null, .int) := by decide +kernel
theorem jF_184_38 : j_F 184 38 = some (.getfield 9, 3, 3, 0, .null, (.object "HundredWords$Tape")) := by decide +kernel
theorem jF_184_41 : j_F 184 41 = some (.invokevirtual 44, 3, 37, 1, .null, .int) := by decide +kernel
theorem jF_184_44 : j_F 184 44 = some (.ifCond .eq 17, 3, 61, 0, .null, .int) := by decide +kernel
theorem jF_184_47 : j_F 184 47 = some (.aload_n 0, 1, 0, 0, .null, .int) := by decide +kernel
theorem jF_184_48 : j_F 184 48 = some (.getfield 9, 3, 3, 0, .null, (.object "HundredWords$Tape")) := by decide +kernel
theorem jF_184_51 : j_F 184 51 = some (.aload_n 0, 1, 0, 0, .null, .int) := by decide +kernel
theorem jF_184_52 : j_F 184 52 = some (.getfield 23, 3, 3, 1, .null, (.array .int)) := by decide +kernel
theorem jF_184_55 : j_F 184 55 = some (.invokevirtual 48, 3, 41, 2, .null, .int) := by decide +kernel
theorem jF_184_58 : j_F 184 58 = some (.goto 4, 3, 62, 0, .null, .int) := by decide +kernel
theorem jF_184_61 : j_F 184 61 = some (.iconst (-1), 1, 0, 0, .null, .int) := by decide +kernel
theorem jF_184_62 : j_F 184 62 = some (.istore_n 2, 1, 0, 0, .null, .int) := by decide +kernel
theorem jF_184_63 : j_F 184 63 = some (.iload_n 2, 1, 0, 0, .null, .int) := by decide +kernel
theorem jF_184_64 : j_F 184 64 = some (.bipush 13, 2, 0, 0, .null, .int) := by decide +kernel
theorem jF_184_66 : j_F 184 66 = some (.if_icmp .ne 8, 3, 74, 0, .null, .int) := by decide +kernel
theorem jF_184_69 : j_F 184 69 = some (.aload_n 0, 1, 0, 0, .null, .int) := by decide +kernel
theorem jF_184_70 : j_F 184 70 = some (.invokevirtual 116, 3, 187, 1, .null, .int) := by decide +kernel
theorem jF_184_73 : j_F 184 73 = some (.ireturn, 1, 0, 0, .null, .boolean) := by decide +kernel
theorem jF_184_74 : j_F 184 74 = some (.iload_n 2, 1, 0, 0, .null, .int) := by decide +kernel
theorem jF_184_75 : j_F 184 75 = some (.bipush 14, 2, 0, 0, .null, .int) := by decide +kernel
theorem jF_184_77 : j_F 184 77 = some (.if_icmp .eq 9, 3, 86, 0, .null, .int) := by decide +kernel
theorem jF_184_80 : j_F 184 80 = some (.iload_n 2, 1, 0, 0, .null, .int) := by decide +kernel
theorem jF_184_81 : j_F 184 81 = some (.bipush 15, 2, 0, 0, .null, .int) := by decide +kernel
theorem jF_184_83 : j_F 184 83 = some (.if_icmp .ne 16, 3, 99, 0, .null, .int) := by decide +kernel
theorem jF_184_86 : j_F 184 86 = some (.aload_n 0, 1, 0, 0, .null, .int) := by decide +kernel
theorem jF_184_87 : j_F 184 87 = some (.getfield 9, 3, 3, 0, .null, (.object "HundredWords$Tape")) := by decide +kernel
theorem jF_184_90 : j_F 184 90 = some (.invokevirtual 62, 3, 45, 1, .null, .int) := by decide +kernel
theorem jF_184_93 : j_F 184 93 = some (.aload_n 0, 1, 0, 0, .null, .int) := by decide +kernel
theorem jF_184_94 : j_F 184 94 = some (.iload_n 2, 1, 0, 0, .null, .int) := by decide +kernel
theorem jF_184_95 : j_F 184 95 = some (.invokevirtual 113, 3, 186, 2, .null, .int) := by decide +kernel
theorem jF_184_98 : j_F 184 98 = some (.ireturn, 1, 0, 0, .null, .boolean) := by decide +kernel
theorem jF_184_99 : j_F 184 99 = some (.iload_n 2, 1, 0, 0, .null, .int) := by decide +kernel
theorem jF_184_100 : j_F 184 100 = some (.bipush 7, 2, 0, 0, .null, .int) := by decide +kernel
theorem jF_184_102 : j_F 184 102 = some (.if_icmp .lt 9, 3, 111, 0, .null, .int) := by decide +kernel
theorem jF_184_105 : j_F 184 105 = some (.iload_n 2, 1, 0, 0, .null, .int) := by decide +kernel
theorem jF_184_106 : j_F 184 106 = some (.bipush 12, 2, 0, 0, .null, .int) := by decide +kernel
theorem jF_184_108 : j_F 184 108 = some (.if_icmp .le 19, 3, 127, 0, .null, .int) := by decide +kernel
theorem jF_184_111 : j_F 184 111 = some (.aload_n 0, 1, 0, 0, .null, .int) := by decide +kernel
theorem jF_184_112 : j_F 184 112 = some (.getfield 9, 3, 3, 0, .null, (.object "HundredWords$Tape")) := by decide +kernel
theorem jF_184_115 : j_F 184 115 = some (.iconst 1, 1, 0, 0, .null, .int) := by decide +kernel
theorem jF_184_116 : j_F 184 116 = some (.aload_n 0, 1, 0, 0, .null, .int) := by decide +kernel
theorem jF_184_117 : j_F 184 117 = some (.getfield 9, 3, 3, 0, .null, (.object "HundredWords$Tape")) := by decide +kernel
theorem jF_184_120 : j_F 184 120 = some (.getfield 55, 3, 6, 2, .null, .int) := by decide +kernel
theorem jF_184_123 : j_F 184 123 = some (.invokevirtual 58, 3, 42, 3, .null, .int) := by decide +kernel
theorem jF_184_126 : j_F 184 126 = some (.ireturn, 1, 0, 0, .null, .boolean) := by decide +kernel
theorem jF_184_127 : j_F 184 127 = some (.aload_n 0, 1, 0, 0, .null, .int) := by decide +kernel
theorem jF_184_128 : j_F 184 128 = some (.getfield 9, 3, 3, 0, .null, (.object "HundredWords$Tape")) := by decide +kernel
theorem jF_184_131 : j_F 184 131 = some (.invokevirtual 62, 3, 45, 1, .null, .int) := by decide +kernel
theorem jF_184_134 : j_F 184 134 = some (.aload_n 0, 1, 0, 0, .null, .int) := by decide +kernel
theorem jF_184_135 : j_F 184 135 = some (.iload_n 2, 1, 0, 0, .null, .int) := by decide +kernel
theorem jF_184_136 : j_F 184 136 = some (.invokevirtual 82, 3, 180, 2, .null, .int) := by decide +kernel
theorem jF_184_139 : j_F 184 139 = some (.iconst 1, 1, 0, 0, .null, .int) := by decide +kernel
theorem jF_184_140 : j_F 184 140 = some (.ireturn, 1, 0, 0, .null, .boolean) := by decide +kernel
theorem jF_185_0 : j_F 185 0 = some (.aload_n 0, 1, 0, 0, .null, .int) := by decide +kernel
theorem jF_185_1 : j_F 185 1 = some (.getfield 9, 3, 3, 0, .null, (.object "HundredWords$Tape")) := by decide +kernel
theorem jF_185_4 : j_F 185 4 = some (.iconst 0, 1, 0, 0, .null, .int) := by decide +kernel
theorem jF_185_5 : j_F 185 5 = some (.sipush 9999, 3, 0, 0, .null, .int) := by decide +kernel
theorem jF_185_8 : j_F 185 8 = some (.invokevirtual 119, 3, 54, 3, .null, .int) := by decide +kernel
theorem jF_185_11 : j_F 185 11 = some (.ifCond .ne 5, 3, 16, 0, .null, .int) := by decide +kernel
theorem jF_185_14 : j_F 185 14 = some (.iconst 0, 1, 0, 0, .null, .int) := by decide +kernel
theorem jF_185_15 : j_F 185 15 = some (.ireturn, 1, 0, 0, .null, .boolean) := by decide +kernel
theorem jF_185_16 : j_F 185 16 = some (.aload_n 0, 1, 0, 0, .null, .int) := by decide +kernel
theorem jF_185_17 : j_F 185 17 = some (.sipush 1000, 3, 0, 0, .null, .int) := by decide +kernel
theorem jF_185_20 : j_F 185 20 = some (.aload_n 0, 1, 0, 0, .null, .int) := by decide +kernel
theorem jF_185_21 : j_F 185 21 = some (.getfield 9, 3, 3, 0, .null, (.object "HundredWords$Tape")) := by decide +kernel
theorem jF_185_24 : j_F 185 24 = some (.getfield 121, 3, 6, 8, .null, .int) := by decide +kernel
theorem jF_185_27 : j_F 185 27 = some (.iadd, 1, 0, 0, .null, .int) := by decide +kernel
theorem jF_185_28 : j_F 185 28 = some (.invokevirtual 82, 3, 180, 2, .null, .int) := by decide +kernel
theorem jF_185_31 : j_F 185 31 = some (.iconst 1, 1, 0, 0, .null, .int) := by decide +kernel
theorem jF_185_32 : j_F 185 32 = some (.ireturn, 1, 0, 0, .null, .boolean) := by decide +kernel
theorem jF_186_0 : j_F 186 0 = some (.aload_n 0, 1, 0, 0, .null, .int) := by decide +kernel
theorem jF_186_1 : j_F 186 1 = some (.getfield 9, 3, 3, 0, .null, (.object "HundredWords$Tape")) := by decide +kernel
theorem jF_186_4 : j_F 186 4 = some (.invokevirtual 71, 3, 35, 1, .null, .int) := by decide +kernel
theorem jF_186_7 : j_F 186 7 = some (.bipush 40, 2, 0, 0, .null, .int) := by decide +kernel
theorem jF_186_9 : j_F 186 9 = some (.if_icmp .eq 19, 3, 28, 0, .null, .int) := by decide +kernel
theorem jF_186_12 : j_F 186 12 = some (.aload_n 0, 1, 0, 0, .null, .int) := by decide +kernel
theorem jF_186_13 : j_F 186 13 = some (.getfield 9, 3, 3, 0, .null, (.object "HundredWords$Tape")) := by decide +kernel
theorem jF_186_16 : j_F 186 16 = some (.iconst 1, 1, 0, 0, .null, .int) := by decide +kernel
theorem jF_186_17 : j_F 186 17 = some (.aload_n 0, 1, 0, 0, .null, .int) := by decide +kernel
theorem jF_186_18 : j_F 186 18 = some (.getfield 9, 3, 3, 0, .null, (.object "HundredWords$Tape")) := by decide +kernel
theorem jF_186_21 : j_F 186 21 = some (.getfield 55, 3, 6, 2, .null, .int) := by decide +kernel
theorem jF_186_24 : j_F 186 24 = some (.invokevirtual 58, 3, 42, 3, .null, .int) := by decide +kernel
theorem jF_186_27 : j_F 186 27 = some (.ireturn, 1, 0, 0, .null, .boolean) := by decide +kernel
theorem jF_186_28 : j_F 186 28 = some (.aload_n 0, 1, 0, 0, .null, .int) := by decide +kernel
theorem jF_186_29 : j_F 186 29 = some (.invokevirtual 98, 3, 177, 1, .null, .int) := by decide +kernel
theorem jF_186_32 : j_F 186 32 = some (.ifCond .ne 5, 3, 37, 0, .null, .int) := by decide +kernel
theorem jF_186_35 : j_F 186 35 = some (.iconst 0, 1, 0, 0, .null, .int) := by decide +kernel
theorem jF_186_36 : j_F 186 36 = some (.ireturn, 1, 0, 0, .null, .boolean) := by decide +kernel
theorem jF_186_37 : j_F 186 37 = some (.aload_n 0, 1, 0, 0, .null, .int) := by decide +kernel
theorem jF_186_38 : j_F 186 38 = some (.getfield 9, 3, 3, 0, .null, (.object "HundredWords$Tape")) := by decide +kernel
theorem jF_186_41 : j_F 186 41 = some (.dup, 1, 0, 0, .null, .int) := by decide +kernel
theorem jF_186_42 : j_F 186 42 = some (.getfield 55, 3, 6, 2, .null, .int) := by decide +kernel
theorem jF_186_45 : j_F 186 45 = some (.iconst 1, 1, 0, 0, .null, .int) := by decide +kernel
theorem jF_186_46 : j_F 186 46 = some (.iadd, 1, 0, 0, .null, .int) := by decide +kernel
theorem jF_186_47 : j_F 186 47 = some (.putfield 55, 3, 6, 2, .null, .int) := by decide +kernel
theorem jF_186_50 : j_F 186 50 = some (.aload_n 0, 1, 0, 0, .null, .int) := by decide +kernel
theorem jF_186_51 : j_F 186 51 = some (.invokevirtual 68, 3, 182, 1, .null, .int) := by decide +kernel
theorem jF_186_54 : j_F 186 54 = some (.ifCond .ne 5, 3, 59, 0, .null, .int) := by decide +kernel
theorem jF_186_57 : j_F 186 57 = some (.iconst 0, 1, 0, 0, .null, .int) := by decide +kernel
theorem jF_186_58 : j_F 186 58 = some (.ireturn, 1, 0, 0, .null, .boolean) := by decide +kernel
theorem jF_186_59 : j_F 186 59 = some (.iload_n 1, 1, 0, 0, .null, .int) := by decide +kernel
theorem jF_186_60 : j_F 186 60 = some (.iconst (-1), 1, 0, 0, .null, .int) := by decide +kernel
theorem jF_186_61 : j_F 186 61 = some (.if_icmp .eq 29, 3, 90, 0, .null, .int) := by decide +kernel
theorem jF_186_64 : j_F 186 64 = some (.aload_n 0, 1, 0, 0, .null, .int) := by decide +kernel
theorem jF_186_65 : j_F 186 65 = some (.getfield 9, 3, 3, 0, .null, (.object "HundredWords$Tape")) := by decide +kernel
theorem jF_186_68 : j_F 186 68 = some (.bipush 44, 2, 0, 0, .null, .int) := by decide +kernel
theorem jF_186_70 : j_F 186 70 = some (.invokevirtual 101, 3, 68, 2, .null, .int) := by decide +kernel
theorem jF_186_73 : j_F 186 73 = some (.ifCond .eq 10, 3, 83, 0, .null, .int) := by decide +kernel
theorem jF_186_76 : j_F 186 76 = some (.aload_n 0, 1, 0, 0, .null, .int) := by decide +kernel
theorem jF_186_77 : j_F 186 77 = some (.invokevirtual 68, 3, 182, 1, .null, .int) := by decide +kernel
theorem jF_186_80 : j_F 186 80 = some (.ifCond .ne 5, 3, 85, 0, .null, .int) := by decide +kernel
theorem jF_186_83 : j_F 186 83 = some (.iconst 0, 1, 0, 0, .null, .int) := by decide +kernel
theorem jF_186_84 : j_F 186 84 = some (.ireturn, 1, 0, 0, .null, .boolean) := by decide +kernel
theorem jF_186_85 : j_F 186 85 = some (.aload_n 0, 1, 0, 0, .null, .int) := by decide +kernel
theorem jF_186_86 : j_F 186 86 = some (.iload_n 1, 1, 0, 0, .null, .int) := by decide +kernel
theorem jF_186_87 : j_F 186 87 = some (.invokevirtual 82, 3, 180, 2, .null, .int) := by decide +kernel
theorem jF_186_90 : j_F 186 90 = some (.aload_n 0, 1, 0, 0, .null, .int) := by decide +kernel
theorem jF_186_91 : j_F 186 91 = some (.getfield 9, 3, 3, 0, .null, (.object "HundredWords$Tape")) := by decide +kernel
theorem jF_186_94 : j_F 186 94 = some (.bipush 41, 2, 0, 0, .null, .int) := by decide +kernel
theorem jF_186_96 : j_F 186 96 = some (.invokevirtual 101, 3, 68, 2, .null, .int) := by decide +kernel
theorem jF_186_99 : j_F 186 99 = some (.ifCond .ne 5, 3, 104, 0, .null, .int) := by decide +kernel
theorem jF_186_102 : j_F 186 102 = some (.iconst 0, 1, 0, 0, .null, .int) := by decide +kernel
theorem jF_186_103 : j_F 186 103 = some (.ireturn, 1, 0, 0, .null, .boolean) := by decide +kernel
theorem jF_186_104 : j_F 186 104 = some (.aload_n 0, 1, 0, 0, .null, .int) := by decide +kernel
theorem jF_186_105 : j_F 186 105 = some (.dup, 1, 0, 0, .null, .int) := by decide +kernel
theorem jF_186_106 : j_F 186 106 = some (.getfield 41, 3, 3, 5, .null, .int) := by decide +kernel
theorem jF_186_109 : j_F 186 109 = some (.iconst 1, 1, 0, 0, .null, .int) := by decide +kernel
theorem jF_186_110 : j_F 186 110 = some (.isub, 1, 0, 0, .null, .int) := by decide +kernel
theorem jF_186_111 : j_F 186 111 = some (.putfield 41, 3, 3, 5, .null, .int) := by decide +kernel
theorem jF_186_114 : j_F 186 114 = some (.iconst 1, 1, 0, 0, .null, .int) := by decide +kernel
theorem jF_186_115 : j_F 186 115 = some (.ireturn, 1, 0, 0, .null, .boolean) := by decide +kernel
theorem jF_187_0 : j_F 187 0 = some (.aload_n 0, 1, 0, 0, .null, .int) := by decide +kernel
theorem jF_187_1 : j_F 187 1 = some (.invokevirtual 98, 3, 177, 1, .null, .int) := by decide +kernel
theorem jF_187_4 : j_F 187 4 = some (.ifCond .ne 5, 3, 9, 0, .null, .int) := by decide +kernel
theorem jF_187_7 : j_F 187 7 = some (.iconst 0, 1, 0, 0, .null, .int) := by decide +kernel
theorem jF_187_8 : j_F 187 8 = some (.ireturn, 1, 0, 0, .null, .boolean) := by decide +kernel
theorem jF_187_9 : j_F 187 9 = some (.aload_n 0, 1, 0, 0, .null, .int) := by decide +kernel
theorem jF_187_10 : j_F 187 10 = some (.getfield 9, 3, 3, 0, .null, (.object "HundredWords$Tape")) := by decide +kernel
theorem jF_187_13 : j_F 187 13 = some (.invokevirtual 62, 3, 45, 1, .null, .int) := by decide +kernel
theorem jF_187_16 : j_F 187 16 = some (.aload_n 0, 1, 0, 0, .null, .int) := by decide +kernel
theorem jF_187_17 : j_F 187 17 = some (.invokevirtual 107, 3, 184, 1, .null, .int) := by decide +kernel
theorem jF_187_20 : j_F 187 20 = some (.ifCond .ne 5, 3, 25, 0, .null, .int) := by decide +kernel
theorem jF_187_23 : j_F 187 23 = some (.iconst 0, 1, 0, 0, .null, .int) := by decide +kernel
theorem jF_187_24 : j_F 187 24 = some (.ireturn, 1, 0, 0, .null, .boolean) := by decide +kernel
theorem jF_187_25 : j_F 187 25 = some (.aload_n 0, 1, 0, 0, .null, .int) := by decide +kernel
theorem jF_187_26 : j_F 187 26 = some (.dup, 1, 0, 0, .null, .int) := by decide +kernel
theorem jF_187_27 : j_F 187 27 = some (.getfield 41, 3, 3, 5, .null, .int) := by decide +kernel
theorem jF_187_30 : j_F 187 30 = some (.iconst 1, 1, 0, 0, .null, .int) := by decide +kernel
theorem jF_187_31 : j_F 187 31 = some (.isub, 1, 0, 0, .null, .int) := by decide +kernel
theorem jF_187_32 : j_F 187 32 = some (.putfield 41, 3, 3, 5, .null, .int) := by decide +kernel
theorem jF_187_35 : j_F 187 35 = some (.aload_n 0, 1, 0, 0, .null, .int) := by decide +kernel
theorem jF_187_36 : j_F 187 36 = some (.bipush 13, 2, 0, 0, .null, .int) := by decide +kernel
theorem jF_187_38 : j_F 187 38 = some (.invokevirtual 82, 3, 180, 2, .null, .int) := by decide +kernel
theorem jF_187_41 : j_F 187 41 = some (.iconst 1, 1, 0, 0, .null, .int) := by decide +kernel
theorem jF_187_42 : j_F 187 42 = some (.ireturn, 1, 0, 0, .null, .boolean) := by decide +kernel
theorem jF_188_0 : j_F 188 0 = some (.aload_n 0, 1, 0, 0, .null, .int) := by decide +kernel
theorem jF_188_1 : j_F 188 1 = some (.aload_n 1, 1, 0, 0, .null, .int) := by decide +kernel
theorem jF_188_2 : j_F 188 2 = some (.putfield 124, 3, 3, 8, .null, (.object "HundredWords$Tongue")) := by decide +kernel
theorem jF_188_5 : j_F 188 5 = some (.aload_n 0, 1, 0, 0, .null, .int) := by decide +kernel
theorem jF_188_6 : j_F 188 6 = some (.aload_n 2, 1, 0, 0, .null, .int) := by decide +kernel
theorem jF_188_7 : j_F 188 7 = some (.putfield 128, 3, 3, 9, .null, (.object "HundredWords$Row")) := by decide +kernel
theorem jF_188_10 : j_F 188 10 = some (.aload_n 0, 1, 0, 0, .null, .int) := by decide +kernel
theorem jF_188_11 : j_F 188 11 = some (.aload_n 3, 1, 0, 0, .null, .int) := by decide +kernel
theorem jF_188_12 : j_F 188 12 = some (.putfield 132, 3, 3, 10, .null, (.object "HundredWords$Row")) := by decide +kernel
theorem jF_188_15 : j_F 188 15 = some (.aload_n 0, 1, 0, 0, .null, .int) := by decide +kernel
theorem jF_188_16 : j_F 188 16 = some (.getfield 52, 3, 3, 6, .null, .int) := by decide +kernel
theorem jF_188_19 : j_F 188 19 = some (.ifCond .eq 11, 3, 30, 0, .null, .int) := by decide +kernel
theorem jF_188_22 : j_F 188 22 = some (.aload_n 0, 1, 0, 0, .null, .int) := by decide +kernel
theorem jF_188_23 : j_F 188 23 = some (.getfield 52, 3, 3, 6, .null, .int) := by decide +kernel
theorem jF_188_26 : j_F 188 26 = some (.iconst 1, 1, 0, 0, .null, .int) := by decide +kernel
theorem jF_188_27 : j_F 188 27 = some (.if_icmp .ne 9, 3, 36, 0, .null, .int) := by decide +kernel
theorem jF_188_30 : j_F 188 30 = some (.ldc2_w 135, 3, 0, 0, (.long (-1)), .int) := by decide +kernel
theorem jF_188_33 : j_F 188 33 = some (.goto 4, 3, 37, 0, .null, .int) := by decide +kernel
theorem jF_188_36 : j_F 188 36 = some (.lconst 0, 1, 0, 0, .null, .int) := by decide +kernel
theorem jF_188_37 : j_F 188 37 = some (.lstore 4, 2, 0, 0, .null, .int) := by decide +kernel
theorem jF_188_39 : j_F 188 39 = some (.iconst 0, 1, 0, 0, .null, .int) := by decide +kernel
theorem jF_188_40 : j_F 188 40 = some (.istore 6, 2, 0, 0, .null, .int) := by decide +kernel
theorem jF_188_42 : j_F 188 42 = some (.iload 6, 2, 0, 0, .null, .int) := by decide +kernel
theorem jF_188_44 : j_F 188 44 = some (.aload_n 0, 1, 0, 0, .null, .int) := by decide +kernel
theorem jF_188_45 : j_F 188 45 = some (.getfield 124, 3, 3, 8, .null, (.object "HundredWords$Tongue")) := by decide +kernel
theorem jF_188_48 : j_F 188 48 = some (.getfield 137, 3, 8, 12, .null, .int) := by decide +kernel
theorem jF_188_51 : j_F 188 51 = some (.if_icmp .ge 65, 3, 116, 0, .null, .int) := by decide +kernel
theorem jF_188_54 : j_F 188 54 = some (.aload_n 0, 1, 0, 0, .null, .int) := by decide +kernel
theorem jF_188_55 : j_F 188 55 = some (.iload 6, 2, 0, 0, .null, .int) := by decide +kernel
theorem jF_188_57 : j_F 188 57 = some (.invokevirtual 142, 3, 189, 2, .null, .int) := by decide +kernel
theorem jF_188_60 : j_F 188 60 = some (.lstore 7, 2, 0, 0, .null, .int) := by decide +kernel
theorem jF_188_62 : j_F 188 62 = some (.aload_n 0, 1, 0, 0, .null, .int) := by decide +kernel
theorem jF_188_63 : j_F 188 63 = some (.getfield 52, 3, 3, 6, .null, .int) := by decide +kernel
theorem jF_188_66 : j_F 188 66 = some (.ifCond .ne 14, 3, 80, 0, .null, .int) := by decide +kernel
theorem jF_188_69 : j_F 188 69 = some (.lload 7, 2, 0, 0, .null, .int) := by decide +kernel
theorem jF_188_71 : j_F 188 71 = some (.lconst 0, 1, 0, 0, .null, .int) := by decide +kernel
theorem jF_188_72 : j_F 188 72 = some (.lcmp, 1, 0, 0, .null, .int) := by decide +kernel
theorem jF_188_73 : j_F 188 73 = some (.ifCond .eq 7, 3, 80, 0, .null, .int) := by decide +kernel
theorem jF_188_76 : j_F 188 76 = some (.iload 6, 2, 0, 0, .null, .int) := by decide +kernel
theorem jF_188_78 : j_F 188 78 = some (.i2l, 1, 0, 0, .null, .int) := by decide +kernel
theorem jF_188_79 : j_F 188 79 = some (.lreturn, 1, 0, 0, .null, .int) := by decide +kernel
theorem jF_188_80 : j_F 188 80 = some (.iload 6, 2, 0, 0, .null, .int) := by decide +kernel
theorem jF_188_82 : j_F 188 82 = some (.ifCond .ne 16, 3, 98, 0, .null, .int) := by decide +kernel
theorem jF_188_85 : j_F 188 85 = some (.aload_n 0, 1, 0, 0, .null, .int) := by decide +kernel
theorem jF_188_86 : j_F 188 86 = some (.getfield 52, 3, 3, 6, .null, .int) := by decide +kernel
theorem jF_188_89 : j_F 188 89 = some (.iconst 4, 1, 0, 0, .null, .int) := by decide +kernel
theorem jF_188_90 : j_F 188 90 = some (.if_icmp .lt 8, 3, 98, 0, .null, .int) := by decide +kernel
theorem jF_188_93 : j_F 188 93 = some (.lload 7, 2, 0, 0, .null, .int) := by decide +kernel
theorem jF_188_95 : j_F 188 95 = some (.goto 13, 3, 108, 0, .null, .int) := by decide +kernel
theorem jF_188_98 : j_F 188 98 = some (.aload_n 0, 1, 0, 0, .null, .int) := by decide +kernel
theorem jF_188_99 : j_F 188 99 = some (.lload 4, 2, 0, 0, .null, .int) := by decide +kernel
theorem jF_188_101 : j_F 188 101 = some (.lload 7, 2, 0, 0, .null, .int) := by decide +kernel
theorem jF_188_103 : j_F 188 103 = some (.iload 6, 2, 0, 0, .null, .int) := by decide +kernel
theorem jF_188_105 : j_F 188 105 = some (.invokevirtual 146, 3, 199, 4, .null, .int) := by decide +kernel
theorem jF_188_108 : j_F 188 108 = some (.lstore 4, 2, 0, 0, .null, .int) := by decide +kernel
theorem jF_188_110 : j_F 188 110 = some (.iinc 6 1, 3, 0, 0, .null, .int) := by decide +kernel
theorem jF_188_113 : j_F 188 113 = some (.goto (-71), 3, 42, 0, .null, .int) := by decide +kernel
theorem jF_188_116 : j_F 188 116 = some (.lload 4, 2, 0, 0, .null, .int) := by decide +kernel
theorem jF_188_118 : j_F 188 118 = some (.lreturn, 1, 0, 0, .null, .int) := by decide +kernel
theorem jF_189_0 : j_F 189 0 = some (.aload_n 0, 1, 0, 0, .null, .int) := by decide +kernel
theorem jF_189_1 : j_F 189 1 = some (.iconst 0, 1, 0, 0, .null, .int) := by decide +kernel
theorem jF_189_2 : j_F 189 2 = some (.putfield 159, 3, 3, 7, .null, .int) := by decide +kernel
theorem jF_189_5 : j_F 189 5 = some (.iconst 0, 1, 0, 0, .null, .int) := by decide +kernel
theorem jF_189_6 : j_F 189 6 = some (.istore_n 2, 1, 0, 0, .null, .int) := by decide +kernel
theorem jF_189_7 : j_F 189 7 = some (.iload_n 2, 1, 0, 0, .null, .int) := by decide +kernel
theorem jF_189_8 : j_F 189 8 = some (.aload_n 0, 1, 0, 0, .null, .int) := by decide +kernel
theorem jF_189_9 : j_F 189 9 = some (.getfield 37, 3, 3, 4, .null, .int) := by decide +kernel
theorem jF_189_12 : j_F 189 12 = some (.if_icmp .ge 122, 3, 134, 0, .null, .int) := by decide +kernel
theorem jF_189_15 : j_F 189 15 = some (.aload_n 0, 1, 0, 0, .null, .int) := by decide +kernel
theorem jF_189_16 : j_F 189 16 = some (.getfield 27, 3, 3, 2, .null, (.array .int)) := by decide +kernel
theorem jF_189_19 : j_F 189 19 = some (.iload_n 2, 1, 0, 0, .null, .int) := by decide +kernel
theorem jF_189_20 : j_F 189 20 = some (.iaload, 1, 0, 0, .null, .int) := by decide +kernel
theorem jF_189_21 : j_F 189 21 = some (.istore_n 3, 1, 0, 0, .null, .int) := by decide +kernel
theorem jF_189_22 : j_F 189 22 = some (.iload_n 3, 1, 0, 0, .null, .int) := by decide +kernel
theorem jF_189_23 : j_F 189 23 = some (.sipush 1000, 3, 0, 0, .null, .int) := by decide +kernel
theorem jF_189_26 : j_F 189 26 = some (.if_icmp .lt 16, 3, 42, 0, .null, .int) := by decide +kernel
theorem jF_189_29 : j_F 189 29 = some (.aload_n 0, 1, 0, 0, .null, .int) := by decide +kernel
theorem jF_189_30 : j_F 189 30 = some (.iload_n 3, 1, 0, 0, .null, .int) := by decide +kernel
theorem jF_189_31 : j_F 189 31 = some (.sipush 1000, 3, 0, 0, .null, .int) := by decide +kernel
theorem jF_189_34 : j_F 189 34 = some (.isub, 1, 0, 0, .null, .int) := by decide +kernel
theorem jF_189_35 : j_F 189 35 = some (.i2l, 1, 0, 0, .null, .int) := by decide +kernel
theorem jF_189_36 : j_F 189 36 = some (.invokevirtual 162, 3, 190, 2, .null, .int) := by decide +kernel
theorem jF_189_39 : j_F 189 39 = some (.goto 89, 3, 128, 0, .null, .int) := by decide +kernel
theorem jF_189_42 : j_F 189 42 = some (.iload_n 3, 1, 0, 0, .null, .int) := by decide +kernel
theorem jF_189_43 : j_F 189 43 = some (.bipush 6, 2, 0, 0, .null, .int) := by decide +kernel
theorem jF_189_45 : j_F 189 45 = some (.if_icmp .lt 22, 3, 67, 0, .null, .int) := by decide +kernel
theorem jF_189_48 : j_F 189 48 = some (.iload_n 3, 1, 0, 0, .null, .int) := by decide +kernel
theorem jF_189_49 : j_F 189 49 = some (.bipush 12, 2, 0, 0, .null, .int) := by decide +kernel
theorem jF_189_51 : j_F 189 51 = some (.if_icmp .gt 16, 3, 67, 0, .null, .int) := by decide +kernel
theorem jF_189_54 : j_F 189 54 = some (.aload_n 0, 1, 0, 0, .null, .int) := by decide +kernel
theorem jF_189_55 : j_F 189 55 = some (.aload_n 0, 1, 0, 0, .null, .int) := by decide +kernel
theorem jF_189_56 : j_F 189 56 = some (.iload_n 3, 1, 0, 0, .null, .int) := by decide +kernel
theorem jF_189_57 : j_F 189 57 = some (.iload_n 1, 1, 0, 0, .null, .int) := by decide +kernel
theorem jF_189_58 : j_F 189 58 = some (.invokevirtual 166, 3, 191, 3, .null, .int) := by decide +kernel
theorem jF_189_61 : j_F 189 61 = some (.invokevirtual 162, 3, 190, 2, .null, .int) := by decide +kernel
theorem jF_189_64 : j_F 189 64 = some (.goto 64, 3, 128, 0, .null, .int) := by decide +kernel
theorem jF_189_67 : j_F 189 67 = some (.iload_n 3, 1, 0, 0, .null, .int) := by decide +kernel
theorem jF_189_68 : j_F 189 68 = some (.bipush 18, 2, 0, 0, .null, .int) := by decide +kernel
theorem jF_189_70 : j_F 189 70 = some (.if_icmp .ne 16, 3, 86, 0, .null, .int) := by decide +kernel
theorem jF_189_73 : j_F 189 73 = some (.aload_n 0, 1, 0, 0, .null, .int) := by decide +kernel
theorem jF_189_74 : j_F 189 74 = some (.lconst 1, 1, 0, 0, .null, .int) := by decide +kernel
theorem jF_189_75 : j_F 189 75 = some (.aload_n 0, 1, 0, 0, .null, .int) := by decide +kernel
theorem jF_189_76 : j_F 189 76 = some (.invokevirtual 170, 3, 192, 1, .null, .int) := by decide +kernel
theorem jF_189_79 : j_F 189 79 = some (.lsub, 1, 0, 0, .null, .int) := by decide +kernel
theorem jF_189_80 : j_F 189 80 = some (.invokevirtual 162, 3, 190, 2, .null, .int) := by decide +kernel
theorem jF_189_83 : j_F 189 83 = some (.goto 45, 3, 128, 0, .null, .int) := by decide +kernel
theorem jF_189_86 : j_F 189 86 = some (.iload_n 3, 1, 0, 0, .null, .int) := by decide +kernel
theorem jF_189_87 : j_F 189 87 = some (.bipush 13, 2, 0, 0, .null, .int) := by decide +kernel
theorem jF_189_89 : j_F 189 89 = some (.if_icmp .ne 19, 3, 108, 0, .null, .int) := by decide +kernel
theorem jF_189_92 : j_F 189 92 = some (.aload_n 0, 1, 0, 0, .null, .int) := by decide +kernel
theorem jF_189_93 : j_F 189 93 = some (.aload_n 0, 1, 0, 0, .null, .int) := by decide +kernel
theorem jF_189_94 : j_F 189 94 = some (.aload_n 0, 1, 0, 0, .null, .int) := by decide +kernel
theorem jF_189_95 : j_F 189 95 = some (.invokevirtual 170, 3, 192, 1, .null, .int) := by decide +kernel
theorem jF_189_98 : j_F 189 98 = some (.iload_n 1, 1, 0, 0, .null, .int) := by decide +kernel
theorem jF_189_99 : j_F 189 99 = some (.invokevirtual 174, 3, 193, 3, .null, .int) := by decide +kernel
theorem jF_189_102 : j_F 189 102 = some (.invokevirtual 162, 3, 190, 2, .null, .int) := by decide +kernel
theorem jF_189_105 : j_F 189 105 = some (.goto 23, 3, 128, 0, .null, .int) := by decide +kernel
theorem jF_189_108 : j_F 189 108 = some (.aload_n 0, 1, 0, 0, .null, .int) := by decide +kernel
theorem jF_189_109 : j_F 189 109 = some (.invokevirtual 170, 3, 192, 1, .null, .int) := by decide +kernel
theorem jF_189_112 : j_F 189 112 = some (.lstore 4, 2, 0, 0, .null, .int) := by decide +kernel
theorem jF_189_114 : j_F 189 114 = some (.aload_n 0, 1, 0, 0, .null, .int) := by decide +kernel
theorem jF_189_115 : j_F 189 115 = some (.iload_n 3, 1, 0, 0, .null, .int) := by decide +kernel
theorem jF_189_116 : j_F 189 116 = some (.aload_n 0, 1, 0, 0, .null, .int) := by decide +kernel
theorem jF_189_117 : j_F 189 117 = some (.invokevirtual 170, 3, 192, 1, .null, .int) := by decide +kernel
theorem jF_189_120 : j_F 189 120 = some (.lload 4, 2, 0, 0, .null, .int) := by decide +kernel
theorem jF_189_122 : j_F 189 122 = some (.invokestatic 178, 3, 194, 3, .null, .int) := by decide +kernel
theorem jF_189_125 : j_F 189 125 = some (.invokevirtual 162, 3, 190, 2, .null, .int) := by decide +kernel
theorem jF_189_128 : j_F 189 128 = some (.iinc 2 1, 3, 0, 0, .null, .int) := by decide +kernel
theorem jF_189_131 : j_F 189 131 = some (.goto (-124), 3, 7, 0, .null, .int) := by decide +kernel
theorem jF_189_134 : j_F 189 134 = some (.aload_n 0, 1, 0, 0, .null, .int) := by decide +kernel
theorem jF_189_135 : j_F 189 135 = some (.invokevirtual 170, 3, 192, 1, .null, .int) := by decide +kernel
theorem jF_189_138 : j_F 189 138 = some (.lreturn, 1, 0, 0, .null, .int) := by decide +kernel
theorem jF_190_0 : j_F 190 0 = some (.aload_n 0, 1, 0, 0, .null, .int) := by decide +kernel
theorem jF_190_1 : j_F 190 1 = some (.getfield 159, 3, 3, 7, .null, .int) := by decide +kernel
theorem jF_190_4 : j_F 190 4 = some (.bipush 64, 2, 0, 0, .null, .int) := by decide +kernel
theorem jF_190_6 : j_F 190 6 = some (.if_icmp .ge 23, 3, 29, 0, .null, .int) := by decide +kernel
theorem jF_190_9 : j_F 190 9 = some (.aload_n 0, 1, 0, 0, .null, .int) := by decide +kernel
theorem jF_190_10 : j_F 190 10 = some (.getfield 30, 3, 3, 3, .null, (.array .long)) := by decide +kernel
theorem jF_190_13 : j_F 190 13 = some (.aload_n 0, 1, 0, 0, .null, .int) := by decide +kernel
theorem jF_190_14 : j_F 190 14 = some (.getfield 159, 3, 3, 7, .null, .int) := by decide +kernel
theorem jF_190_17 : j_F 190 17 = some (.lload_n 1, 1, 0, 0, .null, .int) := by decide +kernel
theorem jF_190_18 : j_F 190 18 = some (.lastore, 1, 0, 0, .null, .int) := by decide +kernel
theorem jF_190_19 : j_F 190 19 = some (.aload_n 0, 1, 0, 0, .null, .int) := by decide +kernel
theorem jF_190_20 : j_F 190 20 = some (.dup, 1, 0, 0, .null, .int) := by decide +kernel
theorem jF_190_21 : j_F 190 21 = some (.getfield 159, 3, 3, 7, .null, .int) := by decide +kernel
theorem jF_190_24 : j_F 190 24 = some (.iconst 1, 1, 0, 0, .null, .int) := by decide +kernel
theorem jF_190_25 : j_F 190 25 = some (.iadd, 1, 0, 0, .null, .int) := by decide +kernel
theorem jF_190_26 : j_F 190 26 = some (.putfield 159, 3, 3, 7, .null, .int) := by decide +kernel
theorem jF_190_29 : j_F 190 29 = some (.return_, 1, 0, 0, .null, .int) := by decide +kernel
theorem jF_191_0 : j_F 191 0 = some (.aload_n 0, 1, 0, 0, .null, .int) := by decide +kernel
theorem jF_191_1 : j_F 191 1 = some (.getfield 124, 3, 3, 8, .null, (.object "HundredWords$Tongue")) := by decide +kernel
theorem jF_191_4 : j_F 191 4 = some (.iconst 0, 1, 0, 0, .null, .int) := by decide +kernel
theorem jF_191_5 : j_F 191 5 = some (.invokevirtual 182, 3, 91, 2, .null, .int) := by decide +kernel
theorem jF_191_8 : j_F 191 8 = some (.istore_n 3, 1, 0, 0, .null, .int) := by decide +kernel
theorem jF_191_9 : j_F 191 9 = some (.aload_n 0, 1, 0, 0, .null, .int) := by decide +kernel
theorem jF_191_10 : j_F 191 10 = some (.getfield 124, 3, 3, 8, .null, (.object "HundredWords$Tongue")) := by decide +kernel
theorem jF_191_13 : j_F 191 13 = some (.iconst 1, 1, 0, 0, .null, .int) := by decide +kernel
theorem jF_191_14 : j_F 191 14 = some (.invokevirtual 182, 3, 91, 2, .null, .int) := by decide +kernel
theorem jF_191_17 : j_F 191 17 = some (.istore 4, 2, 0, 0, .null, .int) := by decide +kernel
theorem jF_191_19 : j_F 191 19 = some (.iload_n 3, 1, 0, 0, .null, .int) := by decide +kernel
theorem jF_191_20 : j_F 191 20 = some (.ifCond .le 8, 3, 28, 0, .null, .int) := by decide +kernel
theorem jF_191_23 : j_F 191 23 = some (.iload 4, 2, 0, 0, .null, .int) := by decide +kernel
theorem jF_191_25 : j_F 191 25 = some (.ifCond .gt 5, 3, 30, 0, .null, .int) := by decide +kernel
theorem jF_191_28 : j_F 191 28 = some (.lconst 0, 1, 0, 0, .null, .int) := by decide +kernel
theorem jF_191_29 : j_F 191 29 = some (.lreturn, 1, 0, 0, .null, .int) := by decide +kernel
theorem jF_191_30 : j_F 191 30 = some (.iload_n 1, 1, 0, 0, .null, .int) := by decide +kernel
theorem jF_191_31 : j_F 191 31 = some (.tableswitch 99 6 12 #[41, 43, 46, 51, 59, 67, 83], 41, 0, 0, .null, .int) := by decide +kernel
theorem jF_191_72 : j_F 191 72 = some (.lconst 1, 1, 0, 0, .null, .int) := by decide +kernel
theorem jF_191_73 : j_F 191 73 = some (.lreturn, 1, 0, 0, .null, .int) := by decide +kernel
theorem jF_191_74 : j_F 191 74 = some (.iload_n 2, 1, 0, 0, .null, .int) := by decide +kernel
theorem jF_191_75 : j_F 191 75 = some (.i2l, 1, 0, 0, .null, .int) := by decide +kernel
theorem jF_191_76 : j_F 191 76 = some (.lreturn, 1, 0, 0, .null, .int) := by decide +kernel
theorem jF_191_77 : j_F 191 77 = some (.iload_n 2, 1, 0, 0, .null, .int) := by decide +kernel
theorem jF_191_78 : j_F 191 78 = some (.iload_n 3, 1, 0, 0, .null, .int) := by decide +kernel
theorem jF_191_79 : j_F 191 79 = some (.irem, 1, 0, 0, .null, .int) := by decide +kernel
theorem jF_191_80 : j_F 191 80 = some (.i2l, 1, 0, 0, .null, .int) := by decide +kernel
theorem jF_191_81 : j_F 191 81 = some (.lreturn, 1, 0, 0, .null, .int) := by decide +kernel
theorem jF_191_82 : j_F 191 82 = some (.iload_n 2, 1, 0, 0, .null, .int) := by decide +kernel
theorem jF_191_83 : j_F 191 83 = some (.iload_n 3, 1, 0, 0, .null, .int) := by decide +kernel
theorem jF_191_84 : j_F 191 84 = some (.idiv, 1, 0, 0, .null, .int) := by decide +kernel
theorem jF_191_85 : j_F 191 85 = some (.iload 4, 2, 0, 0, .null, .int) := by decide +kernel
theorem jF_191_87 : j_F 191 87 = some (.irem, 1, 0, 0, .null, .int) := by decide +kernel
theorem jF_191_88 : j_F 191 88 = some (.i2l, 1, 0, 0, .null, .int) := by decide +kernel
theorem jF_191_89 : j_F 191 89 = some (.lreturn, 1, 0, 0, .null, .int) := by decide +kernel
theorem jF_191_90 : j_F 191 90 = some (.iload_n 2, 1, 0, 0, .null, .int) := by decide +kernel
theorem jF_191_91 : j_F 191 91 = some (.iload_n 3, 1, 0, 0, .null, .int) := by decide +kernel
theorem jF_191_92 : j_F 191 92 = some (.idiv, 1, 0, 0, .null, .int) := by decide +kernel
theorem jF_191_93 : j_F 191 93 = some (.iload 4, 2, 0, 0, .null, .int) := by decide +kernel
theorem jF_191_95 : j_F 191 95 = some (.idiv, 1, 0, 0, .null, .int) := by decide +kernel
theorem jF_191_96 : j_F 191 96 = some (.i2l, 1, 0, 0, .null, .int) := by decide +kernel
theorem jF_191_97 : j_F 191 97 = some (.lreturn, 1, 0, 0, .null, .int) := by decide +kernel
theorem jF_191_98 : j_F 191 98 = some (.aload_n 0, 1, 0, 0, .null, .int) := by decide +kernel
theorem jF_191_99 : j_F 191 99 = some (.getfield 128, 3, 3, 9, .null, (.object "HundredWords$Row")) := by decide +kernel
theorem jF_191_102 : j_F 191 102 = some (.getfield 186, 3, 4, 7, .null, .long) := by decide +kernel
theorem jF_191_105 : j_F 191 105 = some (.iload_n 2, 1, 0, 0, .null, .int) := by decide +kernel
theorem jF_191_106 : j_F 191 106 = some (.invokestatic 192, 3, 101, 2, .null, .int) := by decide +kernel
theorem jF_191_109 : j_F 191 109 = some (.invokestatic 196, 3, 98, 1, .null, .int) := by decide +kernel
theorem jF_191_112 : j_F 191 112 = some (.i2l, 1, 0, 0, .null, .int) := by decide +kernel
theorem jF_191_113 : j_F 191 113 = some (.lreturn, 1, 0, 0, .null, .int) := by decide +kernel
theorem jF_191_114 : j_F 191 114 = some (.aload_n 0, 1, 0, 0, .null, .int) := by decide +kernel
theorem jF_191_115 : j_F 191 115 = some (.getfield 132, 3, 3, 10, .null, (.object "HundredWords$Row")) := by decide +kernel
theorem jF_191_118 : j_F 191 118 = some (.getfield 186, 3, 4, 7, .null, .long) := by decide +kernel
theorem jF_191_121 : j_F 191 121 = some (.iload_n 2, 1, 0, 0, .null, .int) := by decide +kernel
theorem jF_191_122 : j_F 191 122 = some (.invokestatic 192, 3, 101, 2, .null, .int) := by decide +kernel
theorem jF_191_125 : j_F 191 125 = some (.invokestatic 196, 3, 98, 1, .null, .int) := by decide +kernel
theorem jF_191_128 : j_F 191 128 = some (.i2l, 1, 0, 0, .null, .int) := by decide +kernel
theorem jF_191_129 : j_F 191 129 = some (.lreturn, 1, 0, 0, .null, .int) := by decide +kernel
theorem jF_191_130 : j_F 191 130 = some (.lconst 0, 1, 0, 0, .null, .int) := by decide +kernel
theorem jF_191_131 : j_F 191 131 = some (.lreturn, 1, 0, 0, .null, .int) := by decide +kernel
theorem jF_192_0 : j_F 192 0 = some (.aload_n 0, 1, 0, 0, .null, .int) := by decide +kernel
theorem jF_192_1 : j_F 192 1 = some (.getfield 159, 3, 3, 7, .null, .int) := by decide +kernel
theorem jF_192_4 : j_F 192 4 = some (.ifCond .le 13, 3, 17, 0, .null, .int) := by decide +kernel
theorem jF_192_7 : j_F 192 7 = some (.aload_n 0, 1, 0, 0, .null, .int) := by decide +kernel
theorem jF_192_8 : j_F 192 8 = some (.dup, 1, 0, 0, .null, .int) := by decide +kernel
theorem jF_192_9 : j_F 192 9 = some (.getfield 159, 3, 3, 7, .null, .int) := by decide +kernel
theorem jF_192_12 : j_F 192 12 = some (.iconst 1, 1, 0, 0, .null, .int) := by decide +kernel
theorem jF_192_13 : j_F 192 13 = some (.isub, 1, 0, 0, .null, .int) := by decide +kernel
theorem jF_192_14 : j_F 192 14 = some (.putfield 159, 3, 3, 7, .null, .int) := by decide +kernel
theorem jF_192_17 : j_F 192 17 = some (.aload_n 0, 1, 0, 0, .null, .int) := by decide +kernel
theorem jF_192_18 : j_F 192 18 = some (.getfield 30, 3, 3, 3, .null, (.array .long)) := by decide +kernel
theorem jF_192_21 : j_F 192 21 = some (.aload_n 0, 1, 0, 0, .null, .int) := by decide +kernel
theorem jF_192_22 : j_F 192 22 = some (.getfield 159, 3, 3, 7, .null, .int) := by decide +kernel
theorem jF_192_25 : j_F 192 25 = some (.laload, 1, 0, 0, .null, .int) := by decide +kernel
theorem jF_192_26 : j_F 192 26 = some (.lreturn, 1, 0, 0, .null, .int) := by decide +kernel
theorem jF_193_0 : j_F 193 0 = some (.lload_n 1, 1, 0, 0, .null, .int) := by decide +kernel
theorem jF_193_1 : j_F 193 1 = some (.lconst 0, 1, 0, 0, .null, .int) := by decide +kernel
theorem jF_193_2 : j_F 193 2 = some (.lcmp, 1, 0, 0, .null, .int) := by decide +kernel
theorem jF_193_3 : j_F 193 3 = some (.ifCond .lt 16, 3, 19, 0, .null, .int) := by decide +kernel
theorem jF_193_6 : j_F 193 6 = some (.lload_n 1, 1, 0, 0, .null, .int) := by decide +kernel
theorem jF_193_7 : j_F 193 7 = some (.aload_n 0, 1, 0, 0, .null, .int) := by decide +kernel
theorem jF_193_8 : j_F 193 8 = some (.getfield 128, 3, 3, 9, .null, (.object "HundredWords$Row")) := by decide +kernel
theorem jF_193_11 : j_F 193 11 = some (.getfield 200, 3, 4, 6, .null, .int) := by decide +kernel
theorem jF_193_14 : j_F 193 14 = some (.i2l, 1, 0, 0, .null, .int) := by decide +kernel
theorem jF_193_15 : j_F 193 15 = some (.lcmp, 1, 0, 0, .null, .int) := by decide +kernel
theorem jF_193_16 : j_F 193 16 = some (.ifCond .lt 5, 3, 21, 0, .null, .int) := by decide +kernel
theorem jF_193_19 : j_F 193 19 = some (.lconst 0, 1, 0, 0, .null, .int) := by decide +kernel
theorem jF_193_20 : j_F 193 20 = some (.lreturn, 1, 0, 0, .null, .int) := by decide +kernel
theorem jF_193_21 : j_F 193 21 = some (.aload_n 0, 1, 0, 0, .null, .int) := by decide +kernel
theorem jF_193_22 : j_F 193 22 = some (.getfield 128, 3, 3, 9, .null, (.object "HundredWords$Row")) := by decide +kernel
theorem jF_193_25 : j_F 193 25 = some (.getfield 203, 3, 4, 5, .null, (.array .long)) := by decide +kernel
theorem jF_193_28 : j_F 193 28 = some (.lload_n 1, 1, 0, 0, .null, .int) := by decide +kernel
theorem jF_193_29 : j_F 193 29 = some (.l2i, 1, 0, 0, .null, .int) := by decide +kernel
theorem jF_193_30 : j_F 193 30 = some (.laload, 1, 0, 0, .null, .int) := by decide +kernel
theorem jF_193_31 : j_F 193 31 = some (.iload_n 3, 1, 0, 0, .null, .int) := by decide +kernel
theorem jF_193_32 : j_F 193 32 = some (.invokestatic 192, 3, 101, 2, .null, .int) := by decide +kernel
theorem jF_193_35 : j_F 193 35 = some (.invokestatic 196, 3, 98, 1, .null, .int) := by decide +kernel
theorem jF_193_38 : j_F 193 38 = some (.i2l, 1, 0, 0, .null, .int) := by decide +kernel
theorem jF_193_39 : j_F 193 39 = some (.lreturn, 1, 0, 0, .null, .int) := by decide +kernel
theorem jF_194_0 : j_F 194 0 = some (.iload_n 0, 1, 0, 0, .null, .int) := by decide +kernel
theorem jF_194_1 : j_F 194 1 = some (.lookupswitch 192 #[(14, 176), (15, 182), (16, 188), (42, 105), (43, 91), (45, 98), (47, 112), (60, 128), (61, 160), (62, 144)], 91, 0, 0, .null, .int) := by decide +kernel
theorem jF_194_92 : j_F 194 92 = some (.lload_n 1, 1, 0, 0, .null, .int) := by decide +kernel
theorem jF_194_93 : j_F 194 93 = some (.lload_n 3, 1, 0, 0, .null, .int) := by decide +kernel
theorem jF_194_94 : j_F 194 94 = some (.ladd, 1, 0, 0, .null, .int) := by decide +kernel
theorem jF_194_95 : j_F 194 95 = some (.invokestatic 206, 3, 195, 1, .null, .int) := by decide +kernel
theorem jF_194_98 : j_F 194 98 = some (.lreturn, 1, 0, 0, .null, .int) := by decide +kernel
theorem jF_194_99 : j_F 194 99 = some (.lload_n 1, 1, 0, 0, .null, .int) := by decide +kernel
theorem jF_194_100 : j_F 194 100 = some (.lload_n 3, 1, 0, 0, .null, .int) := by decide +kernel
theorem jF_194_101 : j_F 194 101 = some (.lsub, 1, 0, 0, .null, .int) := by decide +kernel
theorem jF_194_102 : j_F 194 102 = some (.invokestatic 206, 3, 195, 1, .null, .int) := by decide +kernel
theorem jF_194_105 : j_F 194 105 = some (.lreturn, 1, 0, 0, .null, .int) := by decide +kernel
theorem jF_194_106 : j_F 194 106 = some (.lload_n 1, 1, 0, 0, .null, .int) := by decide +kernel
theorem jF_194_107 : j_F 194 107 = some (.lload_n 3, 1, 0, 0, .null, .int) := by decide +kernel
theorem jF_194_108 : j_F 194 108 = some (.lmul, 1, 0, 0, .null, .int) := by decide +kernel
theorem jF_194_109 : j_F 194 109 = some (.invokestatic 206, 3, 195, 1, .null, .int) := by decide +kernel
theorem jF_194_112 : j_F 194 112 = some (.lreturn, 1, 0, 0, .null, .int) := by decide +kernel
theorem jF_194_113 : j_F 194 113 = some (.lload_n 3, 1, 0, 0, .null, .int) := by decide +kernel
theorem jF_194_114 : j_F 194 114 = some (.lconst 0, 1, 0, 0, .null, .int) := by decide +kernel
theorem jF_194_115 : j_F 194 115 = some (.lcmp, 1, 0, 0, .null, .int) := by decide +kernel
theorem jF_194_116 : j_F 194 116 = some (.ifCond .ne 7, 3, 123, 0, .null, .int) := by decide +kernel
theorem jF_194_119 : j_F 194 119 = some (.lconst 0, 1, 0, 0, .null, .int) := by decide +kernel
theorem jF_194_120 : j_F 194 120 = some (.goto 8, 3, 128, 0, .null, .int) := by decide +kernel
theorem jF_194_123 : j_F 194 123 = some (.lload_n 1, 1, 0, 0, .null, .int) := by decide +kernel
theorem jF_194_124 : j_F 194 124 = some (.lload_n 3, 1, 0, 0, .null, .int) := by decide +kernel
theorem jF_194_125 : j_F 194 125 = some (.invokestatic 210, 3, 198, 2, .null, .int) := by decide +kernel
theorem jF_194_128 : j_F 194 128 = some (.lreturn, 1, 0, 0, .null, .int) := by decide +kernel
theorem jF_194_129 : j_F 194 129 = some (.lload_n 1, 1, 0, 0, .null, .int) := by decide +kernel
theorem jF_194_130 : j_F 194 130 = some (.lload_n 3, 1, 0, 0, .null, .int) := by decide +kernel
theorem jF_194_131 : j_F 194 131 = some (.lcmp, 1, 0, 0, .null, .int) := by decide +kernel
theorem jF_194_132 : j_F 194 132 = some (.ifCond .ge 7, 3, 139, 0, .null, .int) := by decide +kernel
theorem jF_194_135 : j_F 194 135 = some (.iconst 1, 1, 0, 0, .null, .int) := by decide +kernel
theorem jF_194_136 : j_F 194 136 = some (.goto 4, 3, 140, 0, .null, .int) := by decide +kernel
theorem jF_194_139 : j_F 194 139 = some (.iconst 0, 1, 0, 0, .null, .int) := by decide +kernel
theorem jF_194_140 : j_F 194 140 = some (.invokestatic 196, 3, 98, 1, .null, .int) := by decide +kernel
theorem jF_194_143 : j_F 194 143 = some (.i2l, 1, 0, 0, .null, .int) := by decide +kernel
theorem jF_194_144 : j_F 194 144 = some (.lreturn, 1, 0, 0, .null, .int) := by decide +kernel
theorem jF_194_145 : j_F 194 145 = some (.lload_n 1, 1, 0, 0, .null, .int) := by decide +kernel
theorem jF_194_146 : j_F 194 146 = some (.lload_n 3, 1, 0, 0, .null, .int) := by decide +kernel
theorem jF_194_147 : j_F 194 147 = some (.lcmp, 1, 0, 0, .null, .int) := by decide +kernel
theorem jF_194_148 : j_F 194 148 = some (.ifCond .le 7, 3, 155, 0, .null, .int) := by decide +kernel
theorem jF_194_151 : j_F 194 151 = some (.iconst 1, 1, 0, 0, .null, .int) := by decide +kernel
theorem jF_194_152 : j_F 194 152 = some (.goto 4, 3, 156, 0, .null, .int) := by decide +kernel
theorem jF_194_155 : j_F 194 155 = some (.iconst 0, 1, 0, 0, .null, .int) := by decide +kernel
theorem jF_194_156 : j_F 194 156 = some (.invokestatic 196, 3, 98, 1, .null, .int) := by decide +kernel
theorem jF_194_159 : j_F 194 159 = some (.i2l, 1, 0, 0, .null, .int) := by decide +kernel
theorem jF_194_160 : j_F 194 160 = some (.lreturn, 1, 0, 0, .null, .int) := by decide +kernel
theorem jF_194_161 : j_F 194 161 = some (.lload_n 1, 1, 0, 0, .null, .int) := by decide +kernel
theorem jF_194_162 : j_F 194 162 = some (.lload_n 3, 1, 0, 0, .null, .int) := by decide +kernel
theorem jF_194_163 : j_F 194 163 = some (.lcmp, 1, 0, 0, .null, .int) := by decide +kernel
theorem jF_194_164 : j_F 194 164 = some (.ifCond .ne 7, 3, 171, 0, .null, .int) := by decide +kernel
theorem jF_194_167 : j_F 194 167 = some (.iconst 1, 1, 0, 0, .null, .int) := by decide +kernel
theorem jF_194_168 : j_F 194 168 = some (.goto 4, 3, 172, 0, .null, .int) := by decide +kernel
theorem jF_194_171 : j_F 194 171 = some (.iconst 0, 1, 0, 0, .null, .int) := by decide +kernel
theorem jF_194_172 : j_F 194 172 = some (.invokestatic 196, 3, 98, 1, .null, .int) := by decide +kernel
theorem jF_194_175 : j_F 194 175 = some (.i2l, 1, 0, 0, .null, .int) := by decide +kernel
theorem jF_194_176 : j_F 194 176 = some (.lreturn, 1, 0, 0, .null, .int) := by decide +kernel
theorem jF_194_177 : j_F 194 177 = some (.lload_n 1, 1, 0, 0, .null, .int) := by decide +kernel
theorem jF_194_178 : j_F 194 178 = some (.lload_n 3, 1, 0, 0, .null, .int) := by decide +kernel
theorem jF_194_179 : j_F 194 179 = some (.invokestatic 156, 3, 196, 2, .null, .int) := by decide +kernel
theorem jF_194_182 : j_F 194 182 = some (.lreturn, 1, 0, 0, .null, .int) := by decide +kernel
theorem jF_194_183 : j_F 194 183 = some (.lload_n 1, 1, 0, 0, .null, .int) := by decide +kernel
theorem jF_194_184 : j_F 194 184 = some (.lload_n 3, 1, 0, 0, .null, .int) := by decide +kernel
theorem jF_194_185 : j_F 194 185 = some (.invokestatic 150, 3, 197, 2, .null, .int) := by decide +kernel
theorem jF_194_188 : j_F 194 188 = some (.lreturn, 1, 0, 0, .null, .int) := by decide +kernel
theorem jF_194_189 : j_F 194 189 = some (.lload_n 1, 1, 0, 0, .null, .int) := by decide +kernel
theorem jF_194_190 : j_F 194 190 = some (.lload_n 3, 1, 0, 0, .null, .int) := by decide +kernel
theorem jF_194_191 : j_F 194 191 = some (.land, 1, 0, 0, .null, .int) := by decide +kernel
theorem jF_194_192 : j_F 194 192 = some (.lreturn, 1, 0, 0, .null, .int) := by decide +kernel
theorem jF_194_193 : j_F 194 193 = some (.lload_n 1, 1, 0, 0, .null, .int) := by decide +kernel
theorem jF_194_194 : j_F 194 194 = some (.lload_n 3, 1, 0, 0, .null, .int) := by decide +kernel
theorem jF_194_195 : j_F 194 195 = some (.lor, 1, 0, 0, .null, .int) := by decide +kernel
theorem jF_194_196 : j_F 194 196 = some (.lreturn, 1, 0, 0, .null, .int) := by decide +kernel
theorem jF_195_0 : j_F 195 0 = some (.ldc2_w 213, 3, 0, 0, (.long (-1000000)), .int) := by decide +kernel
theorem jF_195_3 : j_F 195 3 = some (.ldc2_w 215, 3, 0, 0, (.long (1000000)), .int) := by decide +kernel
theorem jF_195_6 : j_F 195 6 = some (.lload_n 0, 1, 0, 0, .null, .int) := by decide +kernel
theorem jF_195_7 : j_F 195 7 = some (.invokestatic 156, 3, 196, 2, .null, .int) := by decide +kernel
theorem jF_195_10 : j_F 195 10 = some (.invokestatic 150, 3, 197, 2, .null, .int) := by decide +kernel
theorem jF_195_13 : j_F 195 13 = some (.lreturn, 1, 0, 0, .null, .int) := by decide +kernel
theorem jF_196_0 : j_F 196 0 = some (.lload_n 0, 1, 0, 0, .null, .int) := by decide +kernel
theorem jF_196_1 : j_F 196 1 = some (.lload_n 2, 1, 0, 0, .null, .int) := by decide +kernel
theorem jF_196_2 : j_F 196 2 = some (.lcmp, 1, 0, 0, .null, .int) := by decide +kernel
theorem jF_196_3 : j_F 196 3 = some (.ifCond .gt 7, 3, 10, 0, .null, .int) := by decide +kernel
theorem jF_196_6 : j_F 196 6 = some (.lload_n 0, 1, 0, 0, .null, .int) := by decide +kernel
theorem jF_196_7 : j_F 196 7 = some (.goto 4, 3, 11, 0, .null, .int) := by decide +kernel
theorem jF_196_10 : j_F 196 10 = some (.lload_n 2, 1, 0, 0, .null, .int) := by decide +kernel
theorem jF_196_11 : j_F 196 11 = some (.lreturn, 1, 0, 0, .null, .int) := by decide +kernel
theorem jF_197_0 : j_F 197 0 = some (.lload_n 0, 1, 0, 0, .null, .int) := by decide +kernel
theorem jF_197_1 : j_F 197 1 = some (.lload_n 2, 1, 0, 0, .null, .int) := by decide +kernel
theorem jF_197_2 : j_F 197 2 = some (.lcmp, 1, 0, 0, .null, .int) := by decide +kernel
theorem jF_197_3 : j_F 197 3 = some (.ifCond .lt 7, 3, 10, 0, .null, .int) := by decide +kernel
theorem jF_197_6 : j_F 197 6 = some (.lload_n 0, 1, 0, 0, .null, .int) := by decide +kernel
theorem jF_197_7 : j_F 197 7 = some (.goto 4, 3, 11, 0, .null, .int) := by decide +kernel
theorem jF_197_10 : j_F 197 10 = some (.lload_n 2, 1, 0, 0, .null, .int) := by decide +kernel
theorem jF_197_11 : j_F 197 11 = some (.lreturn, 1, 0, 0, .null, .int) := by decide +kernel
theorem jF_198_0 : j_F 198 0 = some (.lload_n 0, 1, 0, 0, .null, .int) := by decide +kernel
theorem jF_198_1 : j_F 198 1 = some (.lload_n 2, 1, 0, 0, .null, .int) := by decide +kernel
theorem jF_198_2 : j_F 198 2 = some (.ldiv, 1, 0, 0, .null, .int) := by decide +kernel
theorem jF_198_3 : j_F 198 3 = some (.lstore 4, 2, 0, 0, .null, .int) := by decide +kernel
theorem jF_198_5 : j_F 198 5 = some (.lload_n 0, 1, 0, 0, .null, .int) := by decide +kernel
theorem jF_198_6 : j_F 198 6 = some (.lload_n 2, 1, 0, 0, .null, .int) := by decide +kernel
theorem jF_198_7 : j_F 198 7 = some (.lxor, 1, 0, 0, .null, .int) := by decide +kernel
theorem jF_198_8 : j_F 198 8 = some (.lconst 0, 1, 0, 0, .null, .int) := by decide +kernel
theorem jF_198_9 : j_F 198 9 = some (.lcmp, 1, 0, 0, .null, .int) := by decide +kernel
theorem jF_198_10 : j_F 198 10 = some (.ifCond .ge 17, 3, 27, 0, .null, .int) := by decide +kernel
theorem jF_198_13 : j_F 198 13 = some (.lload 4, 2, 0, 0, .null, .int) := by decide +kernel
theorem jF_198_15 : j_F 198 15 = some (.lload_n 2, 1, 0, 0, .null, .int) := by decide +kernel
theorem jF_198_16 : j_F 198 16 = some (.lmul, 1, 0, 0, .null, .int) := by decide +kernel
theorem jF_198_17 : j_F 198 17 = some (.lload_n 0, 1, 0, 0, .null, .int) := by decide +kernel
theorem jF_198_18 : j_F 198 18 = some (.lcmp, 1, 0, 0, .null, .int) := by decide +kernel
theorem jF_198_19 : j_F 198 19 = some (.ifCond .eq 8, 3, 27, 0, .null, .int) := by decide +kernel
theorem jF_198_22 : j_F 198 22 = some (.lload 4, 2, 0, 0, .null, .int) := by decide +kernel
theorem jF_198_24 : j_F 198 24 = some (.lconst 1, 1, 0, 0, .null, .int) := by decide +kernel
theorem jF_198_25 : j_F 198 25 = some (.lsub, 1, 0, 0, .null, .int) := by decide +kernel
theorem jF_198_26 : j_F 198 26 = some (.lreturn, 1, 0, 0, .null, .int) := by decide +kernel
theorem jF_198_27 : j_F 198 27 = some (.lload 4, 2, 0, 0, .null, .int) := by decide +kernel
theorem jF_198_29 : j_F 198 29 = some (.lreturn, 1, 0, 0, .null, .int) := by decide +kernel
theorem jF_199_0 : j_F 199 0 = some (.aload_n 0, 1, 0, 0, .null, .int) := by decide +kernel
theorem jF_199_1 : j_F 199 1 = some (.getfield 52, 3, 3, 6, .null, .int) := by decide +kernel
theorem jF_199_4 : j_F 199 4 = some (.tableswitch 66 1 5 #[36, 50, 50, 54, 60], 36, 0, 0, .null, .int) := by decide +kernel
theorem jF_199_40 : j_F 199 40 = some (.lload_n 3, 1, 0, 0, .null, .int) := by decide +kernel
theorem jF_199_41 : j_F 199 41 = some (.lconst 0, 1, 0, 0, .null, .int) := by decide +kernel
theorem jF_199_42 : j_F 199 42 = some (.lcmp, 1, 0, 0, .null, .int) := by decide +kernel
theorem jF_199_43 : j_F 199 43 = some (.ifCond .eq 9, 3, 52, 0, .null, .int) := by decide +kernel
theorem jF_199_46 : j_F 199 46 = some (.iload 5, 2, 0, 0, .null, .int) := by decide +kernel
theorem jF_199_48 : j_F 199 48 = some (.i2l, 1, 0, 0, .null, .int) := by decide +kernel
theorem jF_199_49 : j_F 199 49 = some (.goto 4, 3, 53, 0, .null, .int) := by decide +kernel
theorem jF_199_52 : j_F 199 52 = some (.lload_n 1, 1, 0, 0, .null, .int) := by decide +kernel
theorem jF_199_53 : j_F 199 53 = some (.lreturn, 1, 0, 0, .null, .int) := by decide +kernel
theorem jF_199_54 : j_F 199 54 = some (.lload_n 1, 1, 0, 0, .null, .int) := by decide +kernel
theorem jF_199_55 : j_F 199 55 = some (.lload_n 3, 1, 0, 0, .null, .int) := by decide +kernel
theorem jF_199_56 : j_F 199 56 = some (.ladd, 1, 0, 0, .null, .int) := by decide +kernel
theorem jF_199_57 : j_F 199 57 = some (.lreturn, 1, 0, 0, .null, .int) := by decide +kernel
theorem jF_199_58 : j_F 199 58 = some (.lload_n 1, 1, 0, 0, .null, .int) := by decide +kernel
theorem jF_199_59 : j_F 199 59 = some (.lload_n 3, 1, 0, 0, .null, .int) := by decide +kernel
theorem jF_199_60 : j_F 199 60 = some (.invokestatic 150, 3, 197, 2, .null, .int) := by decide +kernel
theorem jF_199_63 : j_F 199 63 = some (.lreturn, 1, 0, 0, .null, .int) := by decide +kernel
theorem jF_199_64 : j_F 199 64 = some (.lload_n 1, 1, 0, 0, .null, .int) := by decide +kernel
theorem jF_199_65 : j_F 199 65 = some (.lload_n 3, 1, 0, 0, .null, .int) := by decide +kernel
theorem jF_199_66 : j_F 199 66 = some (.invokestatic 156, 3, 196, 2, .null, .int) := by decide +kernel
theorem jF_199_69 : j_F 199 69 = some (.lreturn, 1, 0, 0, .null, .int) := by decide +kernel
theorem jF_199_70 : j_F 199 70 = some (.lload_n 1, 1, 0, 0, .null, .int) := by decide +kernel
theorem jF_199_71 : j_F 199 71 = some (.lreturn, 1, 0, 0, .null, .int) := by decide +kernel
