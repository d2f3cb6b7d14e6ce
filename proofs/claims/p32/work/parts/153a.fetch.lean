/-! CODE. -/
theorem jF_301_0 : j_F 301 0 = some (.aload_n 0, 1, 0, 0, .null, .int) := by decide +kernel
theorem jF_301_1 : j_F 301 1 = some (.iconst 0, 1, 0, 0, .null, .int) := by decide +kernel
theorem jF_301_2 : j_F 301 2 = some (.invokevirtual 416, 3, 271, 2, .null, .int) := by decide +kernel
theorem jF_301_5 : j_F 301 5 = some (.aload_n 0, 1, 0, 0, .null, .int) := by decide +kernel
theorem jF_301_6 : j_F 301 6 = some (.invokevirtual 533, 3, 302, 1, .null, .int) := by decide +kernel
theorem jF_301_9 : j_F 301 9 = some (.aload_n 0, 1, 0, 0, .null, .int) := by decide +kernel
theorem jF_301_10 : j_F 301 10 = some (.iconst 1, 1, 0, 0, .null, .int) := by decide +kernel
theorem jF_301_11 : j_F 301 11 = some (.invokevirtual 416, 3, 271, 2, .null, .int) := by decide +kernel
theorem jF_301_14 : j_F 301 14 = some (.aload_n 0, 1, 0, 0, .null, .int) := by decide +kernel
theorem jF_301_15 : j_F 301 15 = some (.invokevirtual 530, 3, 303, 1, .null, .int) := by decide +kernel
theorem jF_301_18 : j_F 301 18 = some (.istore_n 1, 1, 0, 0, .null, .int) := by decide +kernel
theorem jF_301_19 : j_F 301 19 = some (.iload_n 1, 1, 0, 0, .null, .int) := by decide +kernel
theorem jF_301_20 : j_F 301 20 = some (.ifCond .ne 5, 3, 25, 0, .null, .int) := by decide +kernel
theorem jF_301_23 : j_F 301 23 = some (.iconst 0, 1, 0, 0, .null, .int) := by decide +kernel
theorem jF_301_24 : j_F 301 24 = some (.ireturn, 1, 0, 0, .null, .int) := by decide +kernel
theorem jF_301_25 : j_F 301 25 = some (.aload_n 0, 1, 0, 0, .null, .int) := by decide +kernel
theorem jF_301_26 : j_F 301 26 = some (.getfield 109, 3, 12, 47, .null, (.array .int)) := by decide +kernel
theorem jF_301_29 : j_F 301 29 = some (.iconst 0, 1, 0, 0, .null, .int) := by decide +kernel
theorem jF_301_30 : j_F 301 30 = some (.iaload, 1, 0, 0, .null, .int) := by decide +kernel
theorem jF_301_31 : j_F 301 31 = some (.bipush 20, 2, 0, 0, .null, .int) := by decide +kernel
theorem jF_301_33 : j_F 301 33 = some (.if_icmp .gt 21, 3, 54, 0, .null, .int) := by decide +kernel
theorem jF_301_36 : j_F 301 36 = some (.aload_n 0, 1, 0, 0, .null, .int) := by decide +kernel
theorem jF_301_37 : j_F 301 37 = some (.getfield 109, 3, 12, 47, .null, (.array .int)) := by decide +kernel
theorem jF_301_40 : j_F 301 40 = some (.iconst 1, 1, 0, 0, .null, .int) := by decide +kernel
theorem jF_301_41 : j_F 301 41 = some (.iaload, 1, 0, 0, .null, .int) := by decide +kernel
theorem jF_301_42 : j_F 301 42 = some (.bipush 20, 2, 0, 0, .null, .int) := by decide +kernel
theorem jF_301_44 : j_F 301 44 = some (.if_icmp .gt 10, 3, 54, 0, .null, .int) := by decide +kernel
theorem jF_301_47 : j_F 301 47 = some (.aload_n 0, 1, 0, 0, .null, .int) := by decide +kernel
theorem jF_301_48 : j_F 301 48 = some (.invokevirtual 469, 3, 290, 1, .null, .int) := by decide +kernel
theorem jF_301_51 : j_F 301 51 = some (.ifCond .ne 5, 3, 56, 0, .null, .int) := by decide +kernel
theorem jF_301_54 : j_F 301 54 = some (.iconst (-1), 1, 0, 0, .null, .int) := by decide +kernel
theorem jF_301_55 : j_F 301 55 = some (.ireturn, 1, 0, 0, .null, .int) := by decide +kernel
theorem jF_301_56 : j_F 301 56 = some (.iload_n 1, 1, 0, 0, .null, .int) := by decide +kernel
theorem jF_301_57 : j_F 301 57 = some (.iconst 1, 1, 0, 0, .null, .int) := by decide +kernel
theorem jF_301_58 : j_F 301 58 = some (.if_icmp .ne 5, 3, 63, 0, .null, .int) := by decide +kernel
theorem jF_301_61 : j_F 301 61 = some (.iconst 1, 1, 0, 0, .null, .int) := by decide +kernel
theorem jF_301_62 : j_F 301 62 = some (.ireturn, 1, 0, 0, .null, .int) := by decide +kernel
theorem jF_301_63 : j_F 301 63 = some (.aload_n 0, 1, 0, 0, .null, .int) := by decide +kernel
theorem jF_301_64 : j_F 301 64 = some (.invokevirtual 536, 3, 304, 1, .null, .int) := by decide +kernel
theorem jF_301_67 : j_F 301 67 = some (.iconst 0, 1, 0, 0, .null, .int) := by decide +kernel
theorem jF_301_68 : j_F 301 68 = some (.istore_n 2, 1, 0, 0, .null, .int) := by decide +kernel
theorem jF_301_69 : j_F 301 69 = some (.iload_n 2, 1, 0, 0, .null, .int) := by decide +kernel
theorem jF_301_70 : j_F 301 70 = some (.aload_n 0, 1, 0, 0, .null, .int) := by decide +kernel
theorem jF_301_71 : j_F 301 71 = some (.getfield 521, 3, 12, 63, .null, .int) := by decide +kernel
theorem jF_301_74 : j_F 301 74 = some (.if_icmp .ge 33, 3, 107, 0, .null, .int) := by decide +kernel
theorem jF_301_77 : j_F 301 77 = some (.aload_n 0, 1, 0, 0, .null, .int) := by decide +kernel
theorem jF_301_78 : j_F 301 78 = some (.iconst 1, 1, 0, 0, .null, .int) := by decide +kernel
theorem jF_301_79 : j_F 301 79 = some (.aload_n 0, 1, 0, 0, .null, .int) := by decide +kernel
theorem jF_301_80 : j_F 301 80 = some (.getfield 130, 3, 12, 62, .null, (.array .int)) := by decide +kernel
theorem jF_301_83 : j_F 301 83 = some (.iload_n 2, 1, 0, 0, .null, .int) := by decide +kernel
theorem jF_301_84 : j_F 301 84 = some (.iaload, 1, 0, 0, .null, .int) := by decide +kernel
theorem jF_301_85 : j_F 301 85 = some (.invokevirtual 527, 3, 306, 3, .null, .int) := by decide +kernel
theorem jF_301_88 : j_F 301 88 = some (.ifCond .eq 13, 3, 101, 0, .null, .int) := by decide +kernel
theorem jF_301_91 : j_F 301 91 = some (.aload_n 0, 1, 0, 0, .null, .int) := by decide +kernel
theorem jF_301_92 : j_F 301 92 = some (.invokevirtual 530, 3, 303, 1, .null, .int) := by decide +kernel
theorem jF_301_95 : j_F 301 95 = some (.iconst 1, 1, 0, 0, .null, .int) := by decide +kernel
theorem jF_301_96 : j_F 301 96 = some (.if_icmp .ne 5, 3, 101, 0, .null, .int) := by decide +kernel
theorem jF_301_99 : j_F 301 99 = some (.iconst 2, 1, 0, 0, .null, .int) := by decide +kernel
theorem jF_301_100 : j_F 301 100 = some (.ireturn, 1, 0, 0, .null, .int) := by decide +kernel
theorem jF_301_101 : j_F 301 101 = some (.iinc 2 1, 3, 0, 0, .null, .int) := by decide +kernel
theorem jF_301_104 : j_F 301 104 = some (.goto (-35), 3, 69, 0, .null, .int) := by decide +kernel
theorem jF_301_107 : j_F 301 107 = some (.iconst 0, 1, 0, 0, .null, .int) := by decide +kernel
theorem jF_301_108 : j_F 301 108 = some (.istore_n 2, 1, 0, 0, .null, .int) := by decide +kernel
theorem jF_301_109 : j_F 301 109 = some (.iload_n 2, 1, 0, 0, .null, .int) := by decide +kernel
theorem jF_301_110 : j_F 301 110 = some (.iconst 3, 1, 0, 0, .null, .int) := by decide +kernel
theorem jF_301_111 : j_F 301 111 = some (.if_icmp .ge 87, 3, 198, 0, .null, .int) := by decide +kernel
theorem jF_301_114 : j_F 301 114 = some (.iconst 0, 1, 0, 0, .null, .int) := by decide +kernel
theorem jF_301_115 : j_F 301 115 = some (.istore_n 3, 1, 0, 0, .null, .int) := by decide +kernel
theorem jF_301_116 : j_F 301 116 = some (.iload_n 3, 1, 0, 0, .null, .int) := by decide +kernel
theorem jF_301_117 : j_F 301 117 = some (.aload_n 0, 1, 0, 0, .null, .int) := by decide +kernel
theorem jF_301_118 : j_F 301 118 = some (.getfield 109, 3, 12, 47, .null, (.array .int)) := by decide +kernel
theorem jF_301_121 : j_F 301 121 = some (.iconst 0, 1, 0, 0, .null, .int) := by decide +kernel
theorem jF_301_122 : j_F 301 122 = some (.iaload, 1, 0, 0, .null, .int) := by decide +kernel
theorem jF_301_123 : j_F 301 123 = some (.if_icmp .gt 69, 3, 192, 0, .null, .int) := by decide +kernel
theorem jF_301_126 : j_F 301 126 = some (.iconst 0, 1, 0, 0, .null, .int) := by decide +kernel
theorem jF_301_127 : j_F 301 127 = some (.istore 4, 2, 0, 0, .null, .int) := by decide +kernel
theorem jF_301_129 : j_F 301 129 = some (.iload 4, 2, 0, 0, .null, .int) := by decide +kernel
theorem jF_301_131 : j_F 301 131 = some (.iload_n 2, 1, 0, 0, .null, .int) := by decide +kernel
theorem jF_301_132 : j_F 301 132 = some (.iconst 1, 1, 0, 0, .null, .int) := by decide +kernel
theorem jF_301_133 : j_F 301 133 = some (.if_icmp .ne 7, 3, 140, 0, .null, .int) := by decide +kernel
theorem jF_301_136 : j_F 301 136 = some (.iconst 1, 1, 0, 0, .null, .int) := by decide +kernel
theorem jF_301_137 : j_F 301 137 = some (.goto 5, 3, 142, 0, .null, .int) := by decide +kernel
theorem jF_301_140 : j_F 301 140 = some (.bipush 23, 2, 0, 0, .null, .int) := by decide +kernel
theorem jF_301_142 : j_F 301 142 = some (.if_icmp .ge 44, 3, 186, 0, .null, .int) := by decide +kernel
theorem jF_301_145 : j_F 301 145 = some (.aload_n 0, 1, 0, 0, .null, .int) := by decide +kernel
theorem jF_301_146 : j_F 301 146 = some (.iconst 0, 1, 0, 0, .null, .int) := by decide +kernel
theorem jF_301_147 : j_F 301 147 = some (.iload_n 2, 1, 0, 0, .null, .int) := by decide +kernel
theorem jF_301_148 : j_F 301 148 = some (.iload_n 3, 1, 0, 0, .null, .int) := by decide +kernel
theorem jF_301_149 : j_F 301 149 = some (.iload 4, 2, 0, 0, .null, .int) := by decide +kernel
theorem jF_301_151 : j_F 301 151 = some (.invokevirtual 465, 3, 288, 5, .null, .int) := by decide +kernel
theorem jF_301_154 : j_F 301 154 = some (.ifCond .eq 26, 3, 180, 0, .null, .int) := by decide +kernel
theorem jF_301_157 : j_F 301 157 = some (.aload_n 0, 1, 0, 0, .null, .int) := by decide +kernel
theorem jF_301_158 : j_F 301 158 = some (.invokevirtual 469, 3, 290, 1, .null, .int) := by decide +kernel
theorem jF_301_161 : j_F 301 161 = some (.ifCond .ne 6, 3, 167, 0, .null, .int) := by decide +kernel
theorem jF_301_164 : j_F 301 164 = some (.goto 16, 3, 180, 0, .null, .int) := by decide +kernel
theorem jF_301_167 : j_F 301 167 = some (.aload_n 0, 1, 0, 0, .null, .int) := by decide +kernel
theorem jF_301_168 : j_F 301 168 = some (.invokevirtual 533, 3, 302, 1, .null, .int) := by decide +kernel
theorem jF_301_171 : j_F 301 171 = some (.aload_n 0, 1, 0, 0, .null, .int) := by decide +kernel
theorem jF_301_172 : j_F 301 172 = some (.invokevirtual 539, 3, 307, 1, .null, .int) := by decide +kernel
theorem jF_301_175 : j_F 301 175 = some (.ifCond .eq 5, 3, 180, 0, .null, .int) := by decide +kernel
theorem jF_301_178 : j_F 301 178 = some (.iconst 3, 1, 0, 0, .null, .int) := by decide +kernel
theorem jF_301_179 : j_F 301 179 = some (.ireturn, 1, 0, 0, .null, .int) := by decide +kernel
theorem jF_301_180 : j_F 301 180 = some (.iinc 4 1, 3, 0, 0, .null, .int) := by decide +kernel
theorem jF_301_183 : j_F 301 183 = some (.goto (-54), 3, 129, 0, .null, .int) := by decide +kernel
theorem jF_301_186 : j_F 301 186 = some (.iinc 3 1, 3, 0, 0, .null, .int) := by decide +kernel
theorem jF_301_189 : j_F 301 189 = some (.goto (-73), 3, 116, 0, .null, .int) := by decide +kernel
theorem jF_301_192 : j_F 301 192 = some (.iinc 2 1, 3, 0, 0, .null, .int) := by decide +kernel
theorem jF_301_195 : j_F 301 195 = some (.goto (-86), 3, 109, 0, .null, .int) := by decide +kernel
theorem jF_301_198 : j_F 301 198 = some (.iconst (-1), 1, 0, 0, .null, .int) := by decide +kernel
theorem jF_301_199 : j_F 301 199 = some (.ireturn, 1, 0, 0, .null, .int) := by decide +kernel
theorem jF_348_0 : j_F 348 0 = some (.aload_n 0, 1, 0, 0, .null, .int) := by decide +kernel
theorem jF_348_1 : j_F 348 1 = some (.iconst 0, 1, 0, 0, .null, .int) := by decide +kernel
theorem jF_348_2 : j_F 348 2 = some (.invokevirtual 416, 3, 271, 2, .null, .int) := by decide +kernel
theorem jF_348_5 : j_F 348 5 = some (.iconst 0, 1, 0, 0, .null, .int) := by decide +kernel
theorem jF_348_6 : j_F 348 6 = some (.istore 4, 2, 0, 0, .null, .int) := by decide +kernel
theorem jF_348_8 : j_F 348 8 = some (.iconst 0, 1, 0, 0, .null, .int) := by decide +kernel
theorem jF_348_9 : j_F 348 9 = some (.istore 5, 2, 0, 0, .null, .int) := by decide +kernel
theorem jF_348_11 : j_F 348 11 = some (.iload 5, 2, 0, 0, .null, .int) := by decide +kernel
theorem jF_348_13 : j_F 348 13 = some (.aload_n 0, 1, 0, 0, .null, .int) := by decide +kernel
theorem jF_348_14 : j_F 348 14 = some (.getfield 401, 3, 12, 49, .null, .int) := by decide +kernel
theorem jF_348_17 : j_F 348 17 = some (.if_icmp .ge 36, 3, 53, 0, .null, .int) := by decide +kernel
theorem jF_348_20 : j_F 348 20 = some (.iload 4, 2, 0, 0, .null, .int) := by decide +kernel
theorem jF_348_22 : j_F 348 22 = some (.i2l, 1, 0, 0, .null, .int) := by decide +kernel
theorem jF_348_23 : j_F 348 23 = some (.lload_n 1, 1, 0, 0, .null, .int) := by decide +kernel
theorem jF_348_24 : j_F 348 24 = some (.lcmp, 1, 0, 0, .null, .int) := by decide +kernel
theorem jF_348_25 : j_F 348 25 = some (.ifCond .ne 14, 3, 39, 0, .null, .int) := by decide +kernel
theorem jF_348_28 : j_F 348 28 = some (.aload_n 0, 1, 0, 0, .null, .int) := by decide +kernel
theorem jF_348_29 : j_F 348 29 = some (.iload 5, 2, 0, 0, .null, .int) := by decide +kernel
theorem jF_348_31 : j_F 348 31 = some (.invokevirtual 409, 3, 260, 2, .null, .int) := by decide +kernel
theorem jF_348_34 : j_F 348 34 = some (.iload_n 3, 1, 0, 0, .null, .int) := by decide +kernel
theorem jF_348_35 : j_F 348 35 = some (.lshr, 1, 0, 0, .null, .int) := by decide +kernel
theorem jF_348_36 : j_F 348 36 = some (.lconst 1, 1, 0, 0, .null, .int) := by decide +kernel
theorem jF_348_37 : j_F 348 37 = some (.land, 1, 0, 0, .null, .int) := by decide +kernel
theorem jF_348_38 : j_F 348 38 = some (.lreturn, 1, 0, 0, .null, .int) := by decide +kernel
theorem jF_348_39 : j_F 348 39 = some (.iinc 4 1, 3, 0, 0, .null, .int) := by decide +kernel
theorem jF_348_42 : j_F 348 42 = some (.aload_n 0, 1, 0, 0, .null, .int) := by decide +kernel
theorem jF_348_43 : j_F 348 43 = some (.iload 5, 2, 0, 0, .null, .int) := by decide +kernel
theorem jF_348_45 : j_F 348 45 = some (.invokevirtual 413, 3, 261, 2, .null, .int) := by decide +kernel
theorem jF_348_48 : j_F 348 48 = some (.istore 5, 2, 0, 0, .null, .int) := by decide +kernel
theorem jF_348_50 : j_F 348 50 = some (.goto (-39), 3, 11, 0, .null, .int) := by decide +kernel
theorem jF_348_53 : j_F 348 53 = some (.lconst 0, 1, 0, 0, .null, .int) := by decide +kernel
theorem jF_348_54 : j_F 348 54 = some (.lreturn, 1, 0, 0, .null, .int) := by decide +kernel
