/-! CODE. -/
theorem jF_145_0 : j_F 145 0 = some (.aload_n 2, 1, 0, 0, .null, .int) := by decide +kernel
theorem jF_145_1 : j_F 145 1 = some (.aload_n 3, 1, 0, 0, .null, .int) := by decide +kernel
theorem jF_145_2 : j_F 145 2 = some (.invokevirtual 18, 3, 146, 2, .null, .int) := by decide +kernel
theorem jF_145_5 : j_F 145 5 = some (.ifCond .eq 5, 3, 10, 0, .null, .int) := by decide +kernel
theorem jF_145_8 : j_F 145 8 = some (.iconst 0, 1, 0, 0, .null, .int) := by decide +kernel
theorem jF_145_9 : j_F 145 9 = some (.ireturn, 1, 0, 0, .null, .int) := by decide +kernel
theorem jF_145_10 : j_F 145 10 = some (.aload_n 2, 1, 0, 0, .null, .int) := by decide +kernel
theorem jF_145_11 : j_F 145 11 = some (.getfield 22, 3, 4, 1, .null, .int) := by decide +kernel
theorem jF_145_14 : j_F 145 14 = some (.bipush 20, 2, 0, 0, .null, .int) := by decide +kernel
theorem jF_145_16 : j_F 145 16 = some (.if_icmp .gt 23, 3, 39, 0, .null, .int) := by decide +kernel
theorem jF_145_19 : j_F 145 19 = some (.aload_n 3, 1, 0, 0, .null, .int) := by decide +kernel
theorem jF_145_20 : j_F 145 20 = some (.getfield 22, 3, 4, 1, .null, .int) := by decide +kernel
theorem jF_145_23 : j_F 145 23 = some (.bipush 20, 2, 0, 0, .null, .int) := by decide +kernel
theorem jF_145_25 : j_F 145 25 = some (.if_icmp .gt 14, 3, 39, 0, .null, .int) := by decide +kernel
theorem jF_145_28 : j_F 145 28 = some (.aload_n 1, 1, 0, 0, .null, .int) := by decide +kernel
theorem jF_145_29 : j_F 145 29 = some (.aload_n 3, 1, 0, 0, .null, .int) := by decide +kernel
theorem jF_145_30 : j_F 145 30 = some (.getfield 26, 3, 4, 7, .null, .long) := by decide +kernel
theorem jF_145_33 : j_F 145 33 = some (.invokevirtual 30, 3, 85, 2, .null, .int) := by decide +kernel
theorem jF_145_36 : j_F 145 36 = some (.ifCond .ne 5, 3, 41, 0, .null, .int) := by decide +kernel
theorem jF_145_39 : j_F 145 39 = some (.iconst (-1), 1, 0, 0, .null, .int) := by decide +kernel
theorem jF_145_40 : j_F 145 40 = some (.ireturn, 1, 0, 0, .null, .int) := by decide +kernel
theorem jF_145_41 : j_F 145 41 = some (.iconst 1, 1, 0, 0, .null, .int) := by decide +kernel
theorem jF_145_42 : j_F 145 42 = some (.istore 4, 2, 0, 0, .null, .int) := by decide +kernel
theorem jF_145_44 : j_F 145 44 = some (.iload 4, 2, 0, 0, .null, .int) := by decide +kernel
theorem jF_145_46 : j_F 145 46 = some (.iconst 3, 1, 0, 0, .null, .int) := by decide +kernel
theorem jF_145_47 : j_F 145 47 = some (.if_icmp .gt 36, 3, 83, 0, .null, .int) := by decide +kernel
theorem jF_145_50 : j_F 145 50 = some (.aload_n 2, 1, 0, 0, .null, .int) := by decide +kernel
theorem jF_145_51 : j_F 145 51 = some (.iconst 0, 1, 0, 0, .null, .int) := by decide +kernel
theorem jF_145_52 : j_F 145 52 = some (.aload_n 3, 1, 0, 0, .null, .int) := by decide +kernel
theorem jF_145_53 : j_F 145 53 = some (.iconst 0, 1, 0, 0, .null, .int) := by decide +kernel
theorem jF_145_54 : j_F 145 54 = some (.iload 4, 2, 0, 0, .null, .int) := by decide +kernel
theorem jF_145_56 : j_F 145 56 = some (.invokestatic 36, 3, 147, 5, .null, .int) := by decide +kernel
theorem jF_145_59 : j_F 145 59 = some (.ifCond .eq 18, 3, 77, 0, .null, .int) := by decide +kernel
theorem jF_145_62 : j_F 145 62 = some (.aload_n 0, 1, 0, 0, .null, .int) := by decide +kernel
theorem jF_145_63 : j_F 145 63 = some (.aload_n 1, 1, 0, 0, .null, .int) := by decide +kernel
theorem jF_145_64 : j_F 145 64 = some (.aload_n 2, 1, 0, 0, .null, .int) := by decide +kernel
theorem jF_145_65 : j_F 145 65 = some (.aload_n 3, 1, 0, 0, .null, .int) := by decide +kernel
theorem jF_145_66 : j_F 145 66 = some (.iload 4, 2, 0, 0, .null, .int) := by decide +kernel
theorem jF_145_68 : j_F 145 68 = some (.invokevirtual 40, 3, 149, 5, .null, .int) := by decide +kernel
theorem jF_145_71 : j_F 145 71 = some (.ifCond .eq 6, 3, 77, 0, .null, .int) := by decide +kernel
theorem jF_145_74 : j_F 145 74 = some (.iload 4, 2, 0, 0, .null, .int) := by decide +kernel
theorem jF_145_76 : j_F 145 76 = some (.ireturn, 1, 0, 0, .null, .int) := by decide +kernel
theorem jF_145_77 : j_F 145 77 = some (.iinc 4 1, 3, 0, 0, .null, .int) := by decide +kernel
theorem jF_145_80 : j_F 145 80 = some (.goto (-36), 3, 44, 0, .null, .int) := by decide +kernel
theorem jF_145_83 : j_F 145 83 = some (.iconst (-1), 1, 0, 0, .null, .int) := by decide +kernel
theorem jF_145_84 : j_F 145 84 = some (.ireturn, 1, 0, 0, .null, .int) := by decide +kernel
theorem jF_147_0 : j_F 147 0 = some (.iload_n 1, 1, 0, 0, .null, .int) := by decide +kernel
theorem jF_147_1 : j_F 147 1 = some (.istore 5, 2, 0, 0, .null, .int) := by decide +kernel
theorem jF_147_3 : j_F 147 3 = some (.iload_n 3, 1, 0, 0, .null, .int) := by decide +kernel
theorem jF_147_4 : j_F 147 4 = some (.istore 6, 2, 0, 0, .null, .int) := by decide +kernel
theorem jF_147_6 : j_F 147 6 = some (.iload 5, 2, 0, 0, .null, .int) := by decide +kernel
theorem jF_147_8 : j_F 147 8 = some (.aload_n 0, 1, 0, 0, .null, .int) := by decide +kernel
theorem jF_147_9 : j_F 147 9 = some (.getfield 22, 3, 4, 1, .null, .int) := by decide +kernel
theorem jF_147_12 : j_F 147 12 = some (.if_icmp .ge 38, 3, 50, 0, .null, .int) := by decide +kernel
theorem jF_147_15 : j_F 147 15 = some (.iload 6, 2, 0, 0, .null, .int) := by decide +kernel
theorem jF_147_17 : j_F 147 17 = some (.aload_n 2, 1, 0, 0, .null, .int) := by decide +kernel
theorem jF_147_18 : j_F 147 18 = some (.getfield 22, 3, 4, 1, .null, .int) := by decide +kernel
theorem jF_147_21 : j_F 147 21 = some (.if_icmp .ge 29, 3, 50, 0, .null, .int) := by decide +kernel
theorem jF_147_24 : j_F 147 24 = some (.aload_n 0, 1, 0, 0, .null, .int) := by decide +kernel
theorem jF_147_25 : j_F 147 25 = some (.getfield 66, 3, 4, 0, .null, (.array .int)) := by decide +kernel
theorem jF_147_28 : j_F 147 28 = some (.iload 5, 2, 0, 0, .null, .int) := by decide +kernel
theorem jF_147_30 : j_F 147 30 = some (.iaload, 1, 0, 0, .null, .int) := by decide +kernel
theorem jF_147_31 : j_F 147 31 = some (.aload_n 2, 1, 0, 0, .null, .int) := by decide +kernel
theorem jF_147_32 : j_F 147 32 = some (.getfield 66, 3, 4, 0, .null, (.array .int)) := by decide +kernel
theorem jF_147_35 : j_F 147 35 = some (.iload 6, 2, 0, 0, .null, .int) := by decide +kernel
theorem jF_147_37 : j_F 147 37 = some (.iaload, 1, 0, 0, .null, .int) := by decide +kernel
theorem jF_147_38 : j_F 147 38 = some (.if_icmp .ne 12, 3, 50, 0, .null, .int) := by decide +kernel
theorem jF_147_41 : j_F 147 41 = some (.iinc 5 1, 3, 0, 0, .null, .int) := by decide +kernel
theorem jF_147_44 : j_F 147 44 = some (.iinc 6 1, 3, 0, 0, .null, .int) := by decide +kernel
theorem jF_147_47 : j_F 147 47 = some (.goto (-41), 3, 6, 0, .null, .int) := by decide +kernel
theorem jF_147_50 : j_F 147 50 = some (.aload_n 0, 1, 0, 0, .null, .int) := by decide +kernel
theorem jF_147_51 : j_F 147 51 = some (.getfield 22, 3, 4, 1, .null, .int) := by decide +kernel
theorem jF_147_54 : j_F 147 54 = some (.iload 5, 2, 0, 0, .null, .int) := by decide +kernel
theorem jF_147_56 : j_F 147 56 = some (.isub, 1, 0, 0, .null, .int) := by decide +kernel
theorem jF_147_57 : j_F 147 57 = some (.istore 7, 2, 0, 0, .null, .int) := by decide +kernel
theorem jF_147_59 : j_F 147 59 = some (.aload_n 2, 1, 0, 0, .null, .int) := by decide +kernel
theorem jF_147_60 : j_F 147 60 = some (.getfield 22, 3, 4, 1, .null, .int) := by decide +kernel
theorem jF_147_63 : j_F 147 63 = some (.iload 6, 2, 0, 0, .null, .int) := by decide +kernel
theorem jF_147_65 : j_F 147 65 = some (.isub, 1, 0, 0, .null, .int) := by decide +kernel
theorem jF_147_66 : j_F 147 66 = some (.istore 8, 2, 0, 0, .null, .int) := by decide +kernel
theorem jF_147_68 : j_F 147 68 = some (.iload 7, 2, 0, 0, .null, .int) := by decide +kernel
theorem jF_147_70 : j_F 147 70 = some (.ifCond .eq 13, 3, 83, 0, .null, .int) := by decide +kernel
theorem jF_147_73 : j_F 147 73 = some (.iload 8, 2, 0, 0, .null, .int) := by decide +kernel
theorem jF_147_75 : j_F 147 75 = some (.ifCond .eq 8, 3, 83, 0, .null, .int) := by decide +kernel
theorem jF_147_78 : j_F 147 78 = some (.iload 4, 2, 0, 0, .null, .int) := by decide +kernel
theorem jF_147_80 : j_F 147 80 = some (.ifCond .ne 21, 3, 101, 0, .null, .int) := by decide +kernel
theorem jF_147_83 : j_F 147 83 = some (.iload 7, 2, 0, 0, .null, .int) := by decide +kernel
theorem jF_147_85 : j_F 147 85 = some (.iload 8, 2, 0, 0, .null, .int) := by decide +kernel
theorem jF_147_87 : j_F 147 87 = some (.invokestatic 60, 3, 139, 2, .null, .int) := by decide +kernel
theorem jF_147_90 : j_F 147 90 = some (.iload 4, 2, 0, 0, .null, .int) := by decide +kernel
theorem jF_147_92 : j_F 147 92 = some (.if_icmp .gt 7, 3, 99, 0, .null, .int) := by decide +kernel
theorem jF_147_95 : j_F 147 95 = some (.iconst 1, 1, 0, 0, .null, .int) := by decide +kernel
theorem jF_147_96 : j_F 147 96 = some (.goto 4, 3, 100, 0, .null, .int) := by decide +kernel
theorem jF_147_99 : j_F 147 99 = some (.iconst 0, 1, 0, 0, .null, .int) := by decide +kernel
theorem jF_147_100 : j_F 147 100 = some (.ireturn, 1, 0, 0, .null, .boolean) := by decide +kernel
theorem jF_147_101 : j_F 147 101 = some (.iload 7, 2, 0, 0, .null, .int) := by decide +kernel
theorem jF_147_103 : j_F 147 103 = some (.iload 8, 2, 0, 0, .null, .int) := by decide +kernel
theorem jF_147_105 : j_F 147 105 = some (.isub, 1, 0, 0, .null, .int) := by decide +kernel
theorem jF_147_106 : j_F 147 106 = some (.invokestatic 70, 3, 148, 1, .null, .int) := by decide +kernel
theorem jF_147_109 : j_F 147 109 = some (.iload 4, 2, 0, 0, .null, .int) := by decide +kernel
theorem jF_147_111 : j_F 147 111 = some (.if_icmp .le 5, 3, 116, 0, .null, .int) := by decide +kernel
theorem jF_147_114 : j_F 147 114 = some (.iconst 0, 1, 0, 0, .null, .int) := by decide +kernel
theorem jF_147_115 : j_F 147 115 = some (.ireturn, 1, 0, 0, .null, .boolean) := by decide +kernel
theorem jF_147_116 : j_F 147 116 = some (.aload_n 0, 1, 0, 0, .null, .int) := by decide +kernel
theorem jF_147_117 : j_F 147 117 = some (.iload 5, 2, 0, 0, .null, .int) := by decide +kernel
theorem jF_147_119 : j_F 147 119 = some (.iconst 1, 1, 0, 0, .null, .int) := by decide +kernel
theorem jF_147_120 : j_F 147 120 = some (.iadd, 1, 0, 0, .null, .int) := by decide +kernel
theorem jF_147_121 : j_F 147 121 = some (.aload_n 2, 1, 0, 0, .null, .int) := by decide +kernel
theorem jF_147_122 : j_F 147 122 = some (.iload 6, 2, 0, 0, .null, .int) := by decide +kernel
theorem jF_147_124 : j_F 147 124 = some (.iconst 1, 1, 0, 0, .null, .int) := by decide +kernel
theorem jF_147_125 : j_F 147 125 = some (.iadd, 1, 0, 0, .null, .int) := by decide +kernel
theorem jF_147_126 : j_F 147 126 = some (.iload 4, 2, 0, 0, .null, .int) := by decide +kernel
theorem jF_147_128 : j_F 147 128 = some (.iconst 1, 1, 0, 0, .null, .int) := by decide +kernel
theorem jF_147_129 : j_F 147 129 = some (.isub, 1, 0, 0, .null, .int) := by decide +kernel
theorem jF_147_130 : j_F 147 130 = some (.invokestatic 36, 3, 147, 5, .null, .int) := by decide +kernel
theorem jF_147_133 : j_F 147 133 = some (.ifCond .ne 39, 3, 172, 0, .null, .int) := by decide +kernel
theorem jF_147_136 : j_F 147 136 = some (.aload_n 0, 1, 0, 0, .null, .int) := by decide +kernel
theorem jF_147_137 : j_F 147 137 = some (.iload 5, 2, 0, 0, .null, .int) := by decide +kernel
theorem jF_147_139 : j_F 147 139 = some (.iconst 1, 1, 0, 0, .null, .int) := by decide +kernel
theorem jF_147_140 : j_F 147 140 = some (.iadd, 1, 0, 0, .null, .int) := by decide +kernel
theorem jF_147_141 : j_F 147 141 = some (.aload_n 2, 1, 0, 0, .null, .int) := by decide +kernel
theorem jF_147_142 : j_F 147 142 = some (.iload 6, 2, 0, 0, .null, .int) := by decide +kernel
theorem jF_147_144 : j_F 147 144 = some (.iload 4, 2, 0, 0, .null, .int) := by decide +kernel
theorem jF_147_146 : j_F 147 146 = some (.iconst 1, 1, 0, 0, .null, .int) := by decide +kernel
theorem jF_147_147 : j_F 147 147 = some (.isub, 1, 0, 0, .null, .int) := by decide +kernel
theorem jF_147_148 : j_F 147 148 = some (.invokestatic 36, 3, 147, 5, .null, .int) := by decide +kernel
theorem jF_147_151 : j_F 147 151 = some (.ifCond .ne 21, 3, 172, 0, .null, .int) := by decide +kernel
theorem jF_147_154 : j_F 147 154 = some (.aload_n 0, 1, 0, 0, .null, .int) := by decide +kernel
theorem jF_147_155 : j_F 147 155 = some (.iload 5, 2, 0, 0, .null, .int) := by decide +kernel
theorem jF_147_157 : j_F 147 157 = some (.aload_n 2, 1, 0, 0, .null, .int) := by decide +kernel
theorem jF_147_158 : j_F 147 158 = some (.iload 6, 2, 0, 0, .null, .int) := by decide +kernel
theorem jF_147_160 : j_F 147 160 = some (.iconst 1, 1, 0, 0, .null, .int) := by decide +kernel
theorem jF_147_161 : j_F 147 161 = some (.iadd, 1, 0, 0, .null, .int) := by decide +kernel
theorem jF_147_162 : j_F 147 162 = some (.iload 4, 2, 0, 0, .null, .int) := by decide +kernel
theorem jF_147_164 : j_F 147 164 = some (.iconst 1, 1, 0, 0, .null, .int) := by decide +kernel
theorem jF_147_165 : j_F 147 165 = some (.isub, 1, 0, 0, .null, .int) := by decide +kernel
theorem jF_147_166 : j_F 147 166 = some (.invokestatic 36, 3, 147, 5, .null, .int) := by decide +kernel
theorem jF_147_169 : j_F 147 169 = some (.ifCond .eq 7, 3, 176, 0, .null, .int) := by decide +kernel
theorem jF_147_172 : j_F 147 172 = some (.iconst 1, 1, 0, 0, .null, .int) := by decide +kernel
theorem jF_147_173 : j_F 147 173 = some (.goto 4, 3, 177, 0, .null, .int) := by decide +kernel
theorem jF_147_176 : j_F 147 176 = some (.iconst 0, 1, 0, 0, .null, .int) := by decide +kernel
theorem jF_147_177 : j_F 147 177 = some (.ireturn, 1, 0, 0, .null, .boolean) := by decide +kernel
theorem jF_148_0 : j_F 148 0 = some (.iload_n 0, 1, 0, 0, .null, .int) := by decide +kernel
theorem jF_148_1 : j_F 148 1 = some (.ifCond .ge 8, 3, 9, 0, .null, .int) := by decide +kernel
theorem jF_148_4 : j_F 148 4 = some (.iload_n 0, 1, 0, 0, .null, .int) := by decide +kernel
theorem jF_148_5 : j_F 148 5 = some (.ineg, 1, 0, 0, .null, .int) := by decide +kernel
theorem jF_148_6 : j_F 148 6 = some (.goto 4, 3, 10, 0, .null, .int) := by decide +kernel
theorem jF_148_9 : j_F 148 9 = some (.iload_n 0, 1, 0, 0, .null, .int) := by decide +kernel
theorem jF_148_10 : j_F 148 10 = some (.ireturn, 1, 0, 0, .null, .int) := by decide +kernel
theorem jF_149_0 : j_F 149 0 = some (.iload 4, 2, 0, 0, .null, .int) := by decide +kernel
theorem jF_149_2 : j_F 149 2 = some (.iconst 1, 1, 0, 0, .null, .int) := by decide +kernel
theorem jF_149_3 : j_F 149 3 = some (.if_icmp .le 9, 3, 12, 0, .null, .int) := by decide +kernel
theorem jF_149_6 : j_F 149 6 = some (.iload 4, 2, 0, 0, .null, .int) := by decide +kernel
theorem jF_149_8 : j_F 149 8 = some (.iconst 3, 1, 0, 0, .null, .int) := by decide +kernel
theorem jF_149_9 : j_F 149 9 = some (.if_icmp .le 15, 3, 24, 0, .null, .int) := by decide +kernel
theorem jF_149_12 : j_F 149 12 = some (.iload 4, 2, 0, 0, .null, .int) := by decide +kernel
theorem jF_149_14 : j_F 149 14 = some (.iconst 1, 1, 0, 0, .null, .int) := by decide +kernel
theorem jF_149_15 : j_F 149 15 = some (.if_icmp .ne 7, 3, 22, 0, .null, .int) := by decide +kernel
theorem jF_149_18 : j_F 149 18 = some (.iconst 1, 1, 0, 0, .null, .int) := by decide +kernel
theorem jF_149_19 : j_F 149 19 = some (.goto 4, 3, 23, 0, .null, .int) := by decide +kernel
theorem jF_149_23 : j_F 149 23 = some (.ireturn, 1, 0, 0, .null, .boolean) := by decide +kernel
theorem jF_149_24 : j_F 149 24 = some (.aload_n 2, 1, 0, 0, .null, .int) := by decide +kernel
theorem jF_149_25 : j_F 149 25 = some (.iconst 0, 1, 0, 0, .null, .int) := by decide +kernel
theorem jF_149_26 : j_F 149 26 = some (.aload_n 3, 1, 0, 0, .null, .int) := by decide +kernel
theorem jF_149_27 : j_F 149 27 = some (.iconst 0, 1, 0, 0, .null, .int) := by decide +kernel
theorem jF_149_28 : j_F 149 28 = some (.iload 4, 2, 0, 0, .null, .int) := by decide +kernel
theorem jF_149_30 : j_F 149 30 = some (.iconst 1, 1, 0, 0, .null, .int) := by decide +kernel
theorem jF_149_31 : j_F 149 31 = some (.isub, 1, 0, 0, .null, .int) := by decide +kernel
theorem jF_149_32 : j_F 149 32 = some (.invokestatic 36, 3, 147, 5, .null, .int) := by decide +kernel
theorem jF_149_35 : j_F 149 35 = some (.ifCond .ne 7, 3, 42, 0, .null, .int) := by decide +kernel
theorem jF_149_38 : j_F 149 38 = some (.iconst 1, 1, 0, 0, .null, .int) := by decide +kernel
theorem jF_149_39 : j_F 149 39 = some (.goto 4, 3, 43, 0, .null, .int) := by decide +kernel
theorem jF_149_42 : j_F 149 42 = some (.iconst 0, 1, 0, 0, .null, .int) := by decide +kernel
theorem jF_149_43 : j_F 149 43 = some (.istore 5, 2, 0, 0, .null, .int) := by decide +kernel
theorem jF_149_45 : j_F 149 45 = some (.aload_n 0, 1, 0, 0, .null, .int) := by decide +kernel
theorem jF_149_46 : j_F 149 46 = some (.getfield 13, 3, 10, 0, .null, (.array (.object "HundredWords$Row"))) := by decide +kernel
theorem jF_149_49 : j_F 149 49 = some (.iload 4, 2, 0, 0, .null, .int) := by decide +kernel
theorem jF_149_51 : j_F 149 51 = some (.iconst 2, 1, 0, 0, .null, .int) := by decide +kernel
theorem jF_149_52 : j_F 149 52 = some (.isub, 1, 0, 0, .null, .int) := by decide +kernel
theorem jF_149_53 : j_F 149 53 = some (.aaload, 1, 0, 0, .null, .int) := by decide +kernel
theorem jF_149_54 : j_F 149 54 = some (.astore 6, 2, 0, 0, .null, .int) := by decide +kernel
theorem jF_149_56 : j_F 149 56 = some (.aload_n 2, 1, 0, 0, .null, .int) := by decide +kernel
theorem jF_149_57 : j_F 149 57 = some (.getfield 22, 3, 4, 1, .null, .int) := by decide +kernel
theorem jF_149_60 : j_F 149 60 = some (.iconst 1, 1, 0, 0, .null, .int) := by decide +kernel
theorem jF_149_61 : j_F 149 61 = some (.iadd, 1, 0, 0, .null, .int) := by decide +kernel
theorem jF_149_62 : j_F 149 62 = some (.bipush 47, 2, 0, 0, .null, .int) := by decide +kernel
theorem jF_149_64 : j_F 149 64 = some (.imul, 1, 0, 0, .null, .int) := by decide +kernel
theorem jF_149_65 : j_F 149 65 = some (.istore 7, 2, 0, 0, .null, .int) := by decide +kernel
theorem jF_149_67 : j_F 149 67 = some (.iconst 0, 1, 0, 0, .null, .int) := by decide +kernel
theorem jF_149_68 : j_F 149 68 = some (.istore 8, 2, 0, 0, .null, .int) := by decide +kernel
theorem jF_149_70 : j_F 149 70 = some (.iload 8, 2, 0, 0, .null, .int) := by decide +kernel
theorem jF_149_72 : j_F 149 72 = some (.iload 7, 2, 0, 0, .null, .int) := by decide +kernel
theorem jF_149_74 : j_F 149 74 = some (.if_icmp .ge 92, 3, 166, 0, .null, .int) := by decide +kernel
theorem jF_149_77 : j_F 149 77 = some (.iload 5, 2, 0, 0, .null, .int) := by decide +kernel
theorem jF_149_79 : j_F 149 79 = some (.ifCond .eq 19, 3, 98, 0, .null, .int) := by decide +kernel
theorem jF_149_82 : j_F 149 82 = some (.aload_n 3, 1, 0, 0, .null, .int) := by decide +kernel
theorem jF_149_83 : j_F 149 83 = some (.iload 8, 2, 0, 0, .null, .int) := by decide +kernel
theorem jF_149_85 : j_F 149 85 = some (.iload 4, 2, 0, 0, .null, .int) := by decide +kernel
theorem jF_149_87 : j_F 149 87 = some (.iconst 1, 1, 0, 0, .null, .int) := by decide +kernel
theorem jF_149_88 : j_F 149 88 = some (.isub, 1, 0, 0, .null, .int) := by decide +kernel
theorem jF_149_89 : j_F 149 89 = some (.invokestatic 44, 3, 150, 3, .null, .int) := by decide +kernel
theorem jF_149_92 : j_F 149 92 = some (.ifCond .ne 6, 3, 98, 0, .null, .int) := by decide +kernel
theorem jF_149_95 : j_F 149 95 = some (.goto 65, 3, 160, 0, .null, .int) := by decide +kernel
theorem jF_149_98 : j_F 149 98 = some (.aload 6, 2, 0, 0, .null, .int) := by decide +kernel
theorem jF_149_100 : j_F 149 100 = some (.aload_n 1, 1, 0, 0, .null, .int) := by decide +kernel
theorem jF_149_101 : j_F 149 101 = some (.aload_n 2, 1, 0, 0, .null, .int) := by decide +kernel
theorem jF_149_102 : j_F 149 102 = some (.iload 8, 2, 0, 0, .null, .int) := by decide +kernel
theorem jF_149_104 : j_F 149 104 = some (.invokevirtual 48, 3, 105, 4, .null, .int) := by decide +kernel
theorem jF_149_107 : j_F 149 107 = some (.ifCond .eq 53, 3, 160, 0, .null, .int) := by decide +kernel
theorem jF_149_110 : j_F 149 110 = some (.aload_n 1, 1, 0, 0, .null, .int) := by decide +kernel
theorem jF_149_111 : j_F 149 111 = some (.aload 6, 2, 0, 0, .null, .int) := by decide +kernel
theorem jF_149_113 : j_F 149 113 = some (.getfield 26, 3, 4, 7, .null, .long) := by decide +kernel
theorem jF_149_116 : j_F 149 116 = some (.invokevirtual 30, 3, 85, 2, .null, .int) := by decide +kernel
theorem jF_149_119 : j_F 149 119 = some (.ifCond .eq 41, 3, 160, 0, .null, .int) := by decide +kernel
theorem jF_149_122 : j_F 149 122 = some (.aload 6, 2, 0, 0, .null, .int) := by decide +kernel
theorem jF_149_124 : j_F 149 124 = some (.iconst 0, 1, 0, 0, .null, .int) := by decide +kernel
theorem jF_149_125 : j_F 149 125 = some (.aload_n 3, 1, 0, 0, .null, .int) := by decide +kernel
theorem jF_149_126 : j_F 149 126 = some (.iconst 0, 1, 0, 0, .null, .int) := by decide +kernel
theorem jF_149_127 : j_F 149 127 = some (.iload 4, 2, 0, 0, .null, .int) := by decide +kernel
theorem jF_149_129 : j_F 149 129 = some (.iconst 1, 1, 0, 0, .null, .int) := by decide +kernel
theorem jF_149_130 : j_F 149 130 = some (.isub, 1, 0, 0, .null, .int) := by decide +kernel
theorem jF_149_131 : j_F 149 131 = some (.invokestatic 36, 3, 147, 5, .null, .int) := by decide +kernel
theorem jF_149_134 : j_F 149 134 = some (.ifCond .eq 26, 3, 160, 0, .null, .int) := by decide +kernel
theorem jF_149_137 : j_F 149 137 = some (.aload 6, 2, 0, 0, .null, .int) := by decide +kernel
theorem jF_149_139 : j_F 149 139 = some (.aload_n 1, 1, 0, 0, .null, .int) := by decide +kernel
theorem jF_149_140 : j_F 149 140 = some (.invokevirtual 52, 3, 82, 2, .null, .int) := by decide +kernel
theorem jF_149_143 : j_F 149 143 = some (.aload_n 0, 1, 0, 0, .null, .int) := by decide +kernel
theorem jF_149_144 : j_F 149 144 = some (.aload_n 1, 1, 0, 0, .null, .int) := by decide +kernel
theorem jF_149_145 : j_F 149 145 = some (.aload 6, 2, 0, 0, .null, .int) := by decide +kernel
theorem jF_149_147 : j_F 149 147 = some (.aload_n 3, 1, 0, 0, .null, .int) := by decide +kernel
theorem jF_149_148 : j_F 149 148 = some (.iload 4, 2, 0, 0, .null, .int) := by decide +kernel
theorem jF_149_150 : j_F 149 150 = some (.iconst 1, 1, 0, 0, .null, .int) := by decide +kernel
theorem jF_149_151 : j_F 149 151 = some (.isub, 1, 0, 0, .null, .int) := by decide +kernel
theorem jF_149_152 : j_F 149 152 = some (.invokevirtual 40, 3, 149, 5, .null, .int) := by decide +kernel
theorem jF_149_155 : j_F 149 155 = some (.ifCond .eq 5, 3, 160, 0, .null, .int) := by decide +kernel
theorem jF_149_158 : j_F 149 158 = some (.iconst 1, 1, 0, 0, .null, .int) := by decide +kernel
theorem jF_149_159 : j_F 149 159 = some (.ireturn, 1, 0, 0, .null, .boolean) := by decide +kernel
theorem jF_149_160 : j_F 149 160 = some (.iinc 8 1, 3, 0, 0, .null, .int) := by decide +kernel
theorem jF_149_163 : j_F 149 163 = some (.goto (-93), 3, 70, 0, .null, .int) := by decide +kernel
theorem jF_149_166 : j_F 149 166 = some (.iconst 0, 1, 0, 0, .null, .int) := by decide +kernel
theorem jF_149_167 : j_F 149 167 = some (.ireturn, 1, 0, 0, .null, .boolean) := by decide +kernel
theorem jF_150_0 : j_F 150 0 = some (.iload_n 1, 1, 0, 0, .null, .int) := by decide +kernel
theorem jF_150_1 : j_F 150 1 = some (.bipush 47, 2, 0, 0, .null, .int) := by decide +kernel
theorem jF_150_3 : j_F 150 3 = some (.irem, 1, 0, 0, .null, .int) := by decide +kernel
theorem jF_150_4 : j_F 150 4 = some (.invokestatic 56, 3, 107, 1, .null, .int) := by decide +kernel
theorem jF_150_7 : j_F 150 7 = some (.istore_n 3, 1, 0, 0, .null, .int) := by decide +kernel
theorem jF_150_8 : j_F 150 8 = some (.iload_n 3, 1, 0, 0, .null, .int) := by decide +kernel
theorem jF_150_9 : j_F 150 9 = some (.iconst (-1), 1, 0, 0, .null, .int) := by decide +kernel
theorem jF_150_10 : j_F 150 10 = some (.if_icmp .ne 5, 3, 15, 0, .null, .int) := by decide +kernel
theorem jF_150_13 : j_F 150 13 = some (.iconst 1, 1, 0, 0, .null, .int) := by decide +kernel
theorem jF_150_14 : j_F 150 14 = some (.ireturn, 1, 0, 0, .null, .boolean) := by decide +kernel
theorem jF_150_15 : j_F 150 15 = some (.iload_n 1, 1, 0, 0, .null, .int) := by decide +kernel
theorem jF_150_16 : j_F 150 16 = some (.bipush 47, 2, 0, 0, .null, .int) := by decide +kernel
theorem jF_150_18 : j_F 150 18 = some (.idiv, 1, 0, 0, .null, .int) := by decide +kernel
theorem jF_150_19 : j_F 150 19 = some (.istore 4, 2, 0, 0, .null, .int) := by decide +kernel
theorem jF_150_21 : j_F 150 21 = some (.iconst 0, 1, 0, 0, .null, .int) := by decide +kernel
theorem jF_150_22 : j_F 150 22 = some (.iload 4, 2, 0, 0, .null, .int) := by decide +kernel
theorem jF_150_24 : j_F 150 24 = some (.iload_n 2, 1, 0, 0, .null, .int) := by decide +kernel
theorem jF_150_25 : j_F 150 25 = some (.isub, 1, 0, 0, .null, .int) := by decide +kernel
theorem jF_150_26 : j_F 150 26 = some (.invokestatic 60, 3, 139, 2, .null, .int) := by decide +kernel
theorem jF_150_29 : j_F 150 29 = some (.istore 5, 2, 0, 0, .null, .int) := by decide +kernel
theorem jF_150_31 : j_F 150 31 = some (.iload 5, 2, 0, 0, .null, .int) := by decide +kernel
theorem jF_150_33 : j_F 150 33 = some (.iload 4, 2, 0, 0, .null, .int) := by decide +kernel
theorem jF_150_35 : j_F 150 35 = some (.iload_n 2, 1, 0, 0, .null, .int) := by decide +kernel
theorem jF_150_36 : j_F 150 36 = some (.iadd, 1, 0, 0, .null, .int) := by decide +kernel
theorem jF_150_37 : j_F 150 37 = some (.if_icmp .gt 31, 3, 68, 0, .null, .int) := by decide +kernel
theorem jF_150_40 : j_F 150 40 = some (.iload 5, 2, 0, 0, .null, .int) := by decide +kernel
theorem jF_150_42 : j_F 150 42 = some (.aload_n 0, 1, 0, 0, .null, .int) := by decide +kernel
theorem jF_150_43 : j_F 150 43 = some (.getfield 22, 3, 4, 1, .null, .int) := by decide +kernel
theorem jF_150_46 : j_F 150 46 = some (.if_icmp .ge 22, 3, 68, 0, .null, .int) := by decide +kernel
theorem jF_150_49 : j_F 150 49 = some (.aload_n 0, 1, 0, 0, .null, .int) := by decide +kernel
theorem jF_150_50 : j_F 150 50 = some (.getfield 66, 3, 4, 0, .null, (.array .int)) := by decide +kernel
theorem jF_150_53 : j_F 150 53 = some (.iload 5, 2, 0, 0, .null, .int) := by decide +kernel
theorem jF_150_55 : j_F 150 55 = some (.iaload, 1, 0, 0, .null, .int) := by decide +kernel
theorem jF_150_56 : j_F 150 56 = some (.iload_n 3, 1, 0, 0, .null, .int) := by decide +kernel
theorem jF_150_57 : j_F 150 57 = some (.if_icmp .ne 5, 3, 62, 0, .null, .int) := by decide +kernel
theorem jF_150_60 : j_F 150 60 = some (.iconst 1, 1, 0, 0, .null, .int) := by decide +kernel
theorem jF_150_61 : j_F 150 61 = some (.ireturn, 1, 0, 0, .null, .boolean) := by decide +kernel
theorem jF_150_62 : j_F 150 62 = some (.iinc 5 1, 3, 0, 0, .null, .int) := by decide +kernel
theorem jF_150_65 : j_F 150 65 = some (.goto (-34), 3, 31, 0, .null, .int) := by decide +kernel
theorem jF_150_68 : j_F 150 68 = some (.iconst 0, 1, 0, 0, .null, .int) := by decide +kernel
theorem jF_150_69 : j_F 150 69 = some (.ireturn, 1, 0, 0, .null, .boolean) := by decide +kernel
