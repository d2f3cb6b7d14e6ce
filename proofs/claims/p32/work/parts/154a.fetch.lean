/-! CODE. -/
theorem jF_247_0 : j_F 247 0 = some (.aload_n 0, 1, 0, 0, .null, .int) := by decide +kernel
theorem jF_247_1 : j_F 247 1 = some (.iconst 0, 1, 0, 0, .null, .int) := by decide +kernel
theorem jF_247_2 : j_F 247 2 = some (.putfield 481, 3, 12, 58, .null, .int) := by decide +kernel
theorem jF_247_5 : j_F 247 5 = some (.aload_n 0, 1, 0, 0, .null, .int) := by decide +kernel
theorem jF_247_6 : j_F 247 6 = some (.iconst 0, 1, 0, 0, .null, .int) := by decide +kernel
theorem jF_247_7 : j_F 247 7 = some (.putfield 478, 3, 12, 56, .null, .int) := by decide +kernel
theorem jF_247_10 : j_F 247 10 = some (.iconst 0, 1, 0, 0, .null, .int) := by decide +kernel
theorem jF_247_11 : j_F 247 11 = some (.istore_n 1, 1, 0, 0, .null, .int) := by decide +kernel
theorem jF_247_12 : j_F 247 12 = some (.iload_n 1, 1, 0, 0, .null, .int) := by decide +kernel
theorem jF_247_13 : j_F 247 13 = some (.bipush 24, 2, 0, 0, .null, .int) := by decide +kernel
theorem jF_247_15 : j_F 247 15 = some (.if_icmp .ge 48, 3, 63, 0, .null, .int) := by decide +kernel
theorem jF_247_18 : j_F 247 18 = some (.aload_n 0, 1, 0, 0, .null, .int) := by decide +kernel
theorem jF_247_19 : j_F 247 19 = some (.getfield 75, 3, 12, 29, .null, (.array .long)) := by decide +kernel
theorem jF_247_22 : j_F 247 22 = some (.bipush 18, 2, 0, 0, .null, .int) := by decide +kernel
theorem jF_247_24 : j_F 247 24 = some (.iload_n 1, 1, 0, 0, .null, .int) := by decide +kernel
theorem jF_247_25 : j_F 247 25 = some (.iconst 2, 1, 0, 0, .null, .int) := by decide +kernel
theorem jF_247_26 : j_F 247 26 = some (.idiv, 1, 0, 0, .null, .int) := by decide +kernel
theorem jF_247_27 : j_F 247 27 = some (.iadd, 1, 0, 0, .null, .int) := by decide +kernel
theorem jF_247_28 : j_F 247 28 = some (.laload, 1, 0, 0, .null, .int) := by decide +kernel
theorem jF_247_29 : j_F 247 29 = some (.lconst 0, 1, 0, 0, .null, .int) := by decide +kernel
theorem jF_247_30 : j_F 247 30 = some (.lcmp, 1, 0, 0, .null, .int) := by decide +kernel
theorem jF_247_31 : j_F 247 31 = some (.ifCond .ne 6, 3, 37, 0, .null, .int) := by decide +kernel
theorem jF_247_34 : j_F 247 34 = some (.goto 23, 3, 57, 0, .null, .int) := by decide +kernel
theorem jF_247_37 : j_F 247 37 = some (.aload_n 0, 1, 0, 0, .null, .int) := by decide +kernel
theorem jF_247_38 : j_F 247 38 = some (.getfield 127, 3, 12, 57, .null, (.array .int)) := by decide +kernel
theorem jF_247_41 : j_F 247 41 = some (.aload_n 0, 1, 0, 0, .null, .int) := by decide +kernel
theorem jF_247_42 : j_F 247 42 = some (.getfield 481, 3, 12, 58, .null, .int) := by decide +kernel
theorem jF_247_45 : j_F 247 45 = some (.iload_n 1, 1, 0, 0, .null, .int) := by decide +kernel
theorem jF_247_46 : j_F 247 46 = some (.iastore, 1, 0, 0, .null, .int) := by decide +kernel
theorem jF_247_47 : j_F 247 47 = some (.aload_n 0, 1, 0, 0, .null, .int) := by decide +kernel
theorem jF_247_48 : j_F 247 48 = some (.dup, 1, 0, 0, .null, .int) := by decide +kernel
theorem jF_247_49 : j_F 247 49 = some (.getfield 481, 3, 12, 58, .null, .int) := by decide +kernel
theorem jF_247_52 : j_F 247 52 = some (.iconst 1, 1, 0, 0, .null, .int) := by decide +kernel
theorem jF_247_53 : j_F 247 53 = some (.iadd, 1, 0, 0, .null, .int) := by decide +kernel
theorem jF_247_54 : j_F 247 54 = some (.putfield 481, 3, 12, 58, .null, .int) := by decide +kernel
theorem jF_247_57 : j_F 247 57 = some (.iinc 1 1, 3, 0, 0, .null, .int) := by decide +kernel
theorem jF_247_60 : j_F 247 60 = some (.goto (-48), 3, 12, 0, .null, .int) := by decide +kernel
theorem jF_247_63 : j_F 247 63 = some (.iconst 0, 1, 0, 0, .null, .int) := by decide +kernel
theorem jF_247_64 : j_F 247 64 = some (.istore_n 1, 1, 0, 0, .null, .int) := by decide +kernel
theorem jF_247_65 : j_F 247 65 = some (.iload_n 1, 1, 0, 0, .null, .int) := by decide +kernel
theorem jF_247_66 : j_F 247 66 = some (.aload_n 0, 1, 0, 0, .null, .int) := by decide +kernel
theorem jF_247_67 : j_F 247 67 = some (.getfield 481, 3, 12, 58, .null, .int) := by decide +kernel
theorem jF_247_70 : j_F 247 70 = some (.if_icmp .ge 23, 3, 93, 0, .null, .int) := by decide +kernel
theorem jF_247_73 : j_F 247 73 = some (.aload_n 0, 1, 0, 0, .null, .int) := by decide +kernel
theorem jF_247_74 : j_F 247 74 = some (.aload_n 0, 1, 0, 0, .null, .int) := by decide +kernel
theorem jF_247_75 : j_F 247 75 = some (.iload_n 1, 1, 0, 0, .null, .int) := by decide +kernel
theorem jF_247_76 : j_F 247 76 = some (.invokevirtual 484, 3, 248, 2, .null, .int) := by decide +kernel
theorem jF_247_79 : j_F 247 79 = some (.aload_n 0, 1, 0, 0, .null, .int) := by decide +kernel
theorem jF_247_80 : j_F 247 80 = some (.iload_n 1, 1, 0, 0, .null, .int) := by decide +kernel
theorem jF_247_81 : j_F 247 81 = some (.invokevirtual 487, 3, 249, 2, .null, .int) := by decide +kernel
theorem jF_247_84 : j_F 247 84 = some (.invokevirtual 490, 3, 250, 3, .null, .int) := by decide +kernel
theorem jF_247_87 : j_F 247 87 = some (.iinc 1 1, 3, 0, 0, .null, .int) := by decide +kernel
theorem jF_247_90 : j_F 247 90 = some (.goto (-25), 3, 65, 0, .null, .int) := by decide +kernel
theorem jF_247_93 : j_F 247 93 = some (.iconst 0, 1, 0, 0, .null, .int) := by decide +kernel
theorem jF_247_94 : j_F 247 94 = some (.istore_n 1, 1, 0, 0, .null, .int) := by decide +kernel
theorem jF_247_95 : j_F 247 95 = some (.iload_n 1, 1, 0, 0, .null, .int) := by decide +kernel
theorem jF_247_96 : j_F 247 96 = some (.aload_n 0, 1, 0, 0, .null, .int) := by decide +kernel
theorem jF_247_97 : j_F 247 97 = some (.getfield 481, 3, 12, 58, .null, .int) := by decide +kernel
theorem jF_247_100 : j_F 247 100 = some (.if_icmp .ge 91, 3, 191, 0, .null, .int) := by decide +kernel
theorem jF_247_103 : j_F 247 103 = some (.iconst 0, 1, 0, 0, .null, .int) := by decide +kernel
theorem jF_247_104 : j_F 247 104 = some (.istore_n 2, 1, 0, 0, .null, .int) := by decide +kernel
theorem jF_247_105 : j_F 247 105 = some (.iload_n 2, 1, 0, 0, .null, .int) := by decide +kernel
theorem jF_247_106 : j_F 247 106 = some (.aload_n 0, 1, 0, 0, .null, .int) := by decide +kernel
theorem jF_247_107 : j_F 247 107 = some (.getfield 481, 3, 12, 58, .null, .int) := by decide +kernel
theorem jF_247_110 : j_F 247 110 = some (.if_icmp .ge 75, 3, 185, 0, .null, .int) := by decide +kernel
theorem jF_247_113 : j_F 247 113 = some (.aload_n 0, 1, 0, 0, .null, .int) := by decide +kernel
theorem jF_247_114 : j_F 247 114 = some (.iload_n 1, 1, 0, 0, .null, .int) := by decide +kernel
theorem jF_247_115 : j_F 247 115 = some (.invokevirtual 487, 3, 249, 2, .null, .int) := by decide +kernel
theorem jF_247_118 : j_F 247 118 = some (.aload_n 0, 1, 0, 0, .null, .int) := by decide +kernel
theorem jF_247_119 : j_F 247 119 = some (.iload_n 2, 1, 0, 0, .null, .int) := by decide +kernel
theorem jF_247_120 : j_F 247 120 = some (.invokevirtual 487, 3, 249, 2, .null, .int) := by decide +kernel
theorem jF_247_123 : j_F 247 123 = some (.iadd, 1, 0, 0, .null, .int) := by decide +kernel
theorem jF_247_124 : j_F 247 124 = some (.iconst 1, 1, 0, 0, .null, .int) := by decide +kernel
theorem jF_247_125 : j_F 247 125 = some (.iadd, 1, 0, 0, .null, .int) := by decide +kernel
theorem jF_247_126 : j_F 247 126 = some (.istore_n 3, 1, 0, 0, .null, .int) := by decide +kernel
theorem jF_247_127 : j_F 247 127 = some (.aload_n 0, 1, 0, 0, .null, .int) := by decide +kernel
theorem jF_247_128 : j_F 247 128 = some (.aload_n 0, 1, 0, 0, .null, .int) := by decide +kernel
theorem jF_247_129 : j_F 247 129 = some (.iload_n 1, 1, 0, 0, .null, .int) := by decide +kernel
theorem jF_247_130 : j_F 247 130 = some (.invokevirtual 484, 3, 248, 2, .null, .int) := by decide +kernel
theorem jF_247_133 : j_F 247 133 = some (.aload_n 0, 1, 0, 0, .null, .int) := by decide +kernel
theorem jF_247_134 : j_F 247 134 = some (.iload_n 2, 1, 0, 0, .null, .int) := by decide +kernel
theorem jF_247_135 : j_F 247 135 = some (.invokevirtual 484, 3, 248, 2, .null, .int) := by decide +kernel
theorem jF_247_138 : j_F 247 138 = some (.land, 1, 0, 0, .null, .int) := by decide +kernel
theorem jF_247_139 : j_F 247 139 = some (.iload_n 3, 1, 0, 0, .null, .int) := by decide +kernel
theorem jF_247_140 : j_F 247 140 = some (.invokevirtual 490, 3, 250, 3, .null, .int) := by decide +kernel
theorem jF_247_143 : j_F 247 143 = some (.aload_n 0, 1, 0, 0, .null, .int) := by decide +kernel
theorem jF_247_144 : j_F 247 144 = some (.aload_n 0, 1, 0, 0, .null, .int) := by decide +kernel
theorem jF_247_145 : j_F 247 145 = some (.iload_n 1, 1, 0, 0, .null, .int) := by decide +kernel
theorem jF_247_146 : j_F 247 146 = some (.invokevirtual 484, 3, 248, 2, .null, .int) := by decide +kernel
theorem jF_247_149 : j_F 247 149 = some (.aload_n 0, 1, 0, 0, .null, .int) := by decide +kernel
theorem jF_247_150 : j_F 247 150 = some (.iload_n 2, 1, 0, 0, .null, .int) := by decide +kernel
theorem jF_247_151 : j_F 247 151 = some (.invokevirtual 484, 3, 248, 2, .null, .int) := by decide +kernel
theorem jF_247_154 : j_F 247 154 = some (.lor, 1, 0, 0, .null, .int) := by decide +kernel
theorem jF_247_155 : j_F 247 155 = some (.iload_n 3, 1, 0, 0, .null, .int) := by decide +kernel
theorem jF_247_156 : j_F 247 156 = some (.invokevirtual 490, 3, 250, 3, .null, .int) := by decide +kernel
theorem jF_247_159 : j_F 247 159 = some (.aload_n 0, 1, 0, 0, .null, .int) := by decide +kernel
theorem jF_247_160 : j_F 247 160 = some (.aload_n 0, 1, 0, 0, .null, .int) := by decide +kernel
theorem jF_247_161 : j_F 247 161 = some (.iload_n 1, 1, 0, 0, .null, .int) := by decide +kernel
theorem jF_247_162 : j_F 247 162 = some (.invokevirtual 484, 3, 248, 2, .null, .int) := by decide +kernel
theorem jF_247_165 : j_F 247 165 = some (.aload_n 0, 1, 0, 0, .null, .int) := by decide +kernel
theorem jF_247_166 : j_F 247 166 = some (.iload_n 2, 1, 0, 0, .null, .int) := by decide +kernel
theorem jF_247_167 : j_F 247 167 = some (.invokevirtual 484, 3, 248, 2, .null, .int) := by decide +kernel
theorem jF_247_170 : j_F 247 170 = some (.ldc2_w 407, 3, 0, 0, (.long (-1)), .int) := by decide +kernel
theorem jF_247_173 : j_F 247 173 = some (.lxor, 1, 0, 0, .null, .int) := by decide +kernel
theorem jF_247_174 : j_F 247 174 = some (.land, 1, 0, 0, .null, .int) := by decide +kernel
theorem jF_247_175 : j_F 247 175 = some (.iload_n 3, 1, 0, 0, .null, .int) := by decide +kernel
theorem jF_247_176 : j_F 247 176 = some (.invokevirtual 490, 3, 250, 3, .null, .int) := by decide +kernel
theorem jF_247_179 : j_F 247 179 = some (.iinc 2 1, 3, 0, 0, .null, .int) := by decide +kernel
theorem jF_247_182 : j_F 247 182 = some (.goto (-77), 3, 105, 0, .null, .int) := by decide +kernel
theorem jF_247_185 : j_F 247 185 = some (.iinc 1 1, 3, 0, 0, .null, .int) := by decide +kernel
theorem jF_247_188 : j_F 247 188 = some (.goto (-93), 3, 95, 0, .null, .int) := by decide +kernel
theorem jF_247_191 : j_F 247 191 = some (.return_, 1, 0, 0, .null, .int) := by decide +kernel
theorem jF_248_0 : j_F 248 0 = some (.aload_n 0, 1, 0, 0, .null, .int) := by decide +kernel
theorem jF_248_1 : j_F 248 1 = some (.getfield 97, 3, 12, 40, .null, (.array .long)) := by decide +kernel
theorem jF_248_4 : j_F 248 4 = some (.aload_n 0, 1, 0, 0, .null, .int) := by decide +kernel
theorem jF_248_5 : j_F 248 5 = some (.getfield 127, 3, 12, 57, .null, (.array .int)) := by decide +kernel
theorem jF_248_8 : j_F 248 8 = some (.iload_n 1, 1, 0, 0, .null, .int) := by decide +kernel
theorem jF_248_9 : j_F 248 9 = some (.iaload, 1, 0, 0, .null, .int) := by decide +kernel
theorem jF_248_10 : j_F 248 10 = some (.iconst 2, 1, 0, 0, .null, .int) := by decide +kernel
theorem jF_248_11 : j_F 248 11 = some (.idiv, 1, 0, 0, .null, .int) := by decide +kernel
theorem jF_248_12 : j_F 248 12 = some (.laload, 1, 0, 0, .null, .int) := by decide +kernel
theorem jF_248_13 : j_F 248 13 = some (.lstore_n 2, 1, 0, 0, .null, .int) := by decide +kernel
theorem jF_248_14 : j_F 248 14 = some (.aload_n 0, 1, 0, 0, .null, .int) := by decide +kernel
theorem jF_248_15 : j_F 248 15 = some (.getfield 127, 3, 12, 57, .null, (.array .int)) := by decide +kernel
theorem jF_248_18 : j_F 248 18 = some (.iload_n 1, 1, 0, 0, .null, .int) := by decide +kernel
theorem jF_248_19 : j_F 248 19 = some (.iaload, 1, 0, 0, .null, .int) := by decide +kernel
theorem jF_248_20 : j_F 248 20 = some (.iconst 2, 1, 0, 0, .null, .int) := by decide +kernel
theorem jF_248_21 : j_F 248 21 = some (.irem, 1, 0, 0, .null, .int) := by decide +kernel
theorem jF_248_22 : j_F 248 22 = some (.ifCond .ne 7, 3, 29, 0, .null, .int) := by decide +kernel
theorem jF_248_25 : j_F 248 25 = some (.lload_n 2, 1, 0, 0, .null, .int) := by decide +kernel
theorem jF_248_26 : j_F 248 26 = some (.goto 13, 3, 39, 0, .null, .int) := by decide +kernel
theorem jF_248_29 : j_F 248 29 = some (.aload_n 0, 1, 0, 0, .null, .int) := by decide +kernel
theorem jF_248_30 : j_F 248 30 = some (.getfield 355, 3, 12, 42, .null, .long) := by decide +kernel
theorem jF_248_33 : j_F 248 33 = some (.lload_n 2, 1, 0, 0, .null, .int) := by decide +kernel
theorem jF_248_34 : j_F 248 34 = some (.ldc2_w 407, 3, 0, 0, (.long (-1)), .int) := by decide +kernel
theorem jF_248_37 : j_F 248 37 = some (.lxor, 1, 0, 0, .null, .int) := by decide +kernel
theorem jF_248_38 : j_F 248 38 = some (.land, 1, 0, 0, .null, .int) := by decide +kernel
theorem jF_248_39 : j_F 248 39 = some (.lreturn, 1, 0, 0, .null, .int) := by decide +kernel
theorem jF_249_0 : j_F 249 0 = some (.iconst 1, 1, 0, 0, .null, .int) := by decide +kernel
theorem jF_249_1 : j_F 249 1 = some (.aload_n 0, 1, 0, 0, .null, .int) := by decide +kernel
theorem jF_249_2 : j_F 249 2 = some (.getfield 127, 3, 12, 57, .null, (.array .int)) := by decide +kernel
theorem jF_249_5 : j_F 249 5 = some (.iload_n 1, 1, 0, 0, .null, .int) := by decide +kernel
theorem jF_249_6 : j_F 249 6 = some (.iaload, 1, 0, 0, .null, .int) := by decide +kernel
theorem jF_249_7 : j_F 249 7 = some (.iconst 2, 1, 0, 0, .null, .int) := by decide +kernel
theorem jF_249_8 : j_F 249 8 = some (.irem, 1, 0, 0, .null, .int) := by decide +kernel
theorem jF_249_9 : j_F 249 9 = some (.iadd, 1, 0, 0, .null, .int) := by decide +kernel
theorem jF_249_10 : j_F 249 10 = some (.ireturn, 1, 0, 0, .null, .int) := by decide +kernel
theorem jF_250_0 : j_F 250 0 = some (.aload_n 0, 1, 0, 0, .null, .int) := by decide +kernel
theorem jF_250_1 : j_F 250 1 = some (.getfield 121, 3, 12, 54, .null, (.array .long)) := by decide +kernel
theorem jF_250_4 : j_F 250 4 = some (.aload_n 0, 1, 0, 0, .null, .int) := by decide +kernel
theorem jF_250_5 : j_F 250 5 = some (.getfield 478, 3, 12, 56, .null, .int) := by decide +kernel
theorem jF_250_8 : j_F 250 8 = some (.lload_n 1, 1, 0, 0, .null, .int) := by decide +kernel
theorem jF_250_9 : j_F 250 9 = some (.lastore, 1, 0, 0, .null, .int) := by decide +kernel
theorem jF_250_10 : j_F 250 10 = some (.aload_n 0, 1, 0, 0, .null, .int) := by decide +kernel
theorem jF_250_11 : j_F 250 11 = some (.getfield 124, 3, 12, 55, .null, (.array .int)) := by decide +kernel
theorem jF_250_14 : j_F 250 14 = some (.aload_n 0, 1, 0, 0, .null, .int) := by decide +kernel
theorem jF_250_15 : j_F 250 15 = some (.getfield 478, 3, 12, 56, .null, .int) := by decide +kernel
theorem jF_250_18 : j_F 250 18 = some (.iload_n 3, 1, 0, 0, .null, .int) := by decide +kernel
theorem jF_250_19 : j_F 250 19 = some (.iastore, 1, 0, 0, .null, .int) := by decide +kernel
theorem jF_250_20 : j_F 250 20 = some (.aload_n 0, 1, 0, 0, .null, .int) := by decide +kernel
theorem jF_250_21 : j_F 250 21 = some (.dup, 1, 0, 0, .null, .int) := by decide +kernel
theorem jF_250_22 : j_F 250 22 = some (.getfield 478, 3, 12, 56, .null, .int) := by decide +kernel
theorem jF_250_25 : j_F 250 25 = some (.iconst 1, 1, 0, 0, .null, .int) := by decide +kernel
theorem jF_250_26 : j_F 250 26 = some (.iadd, 1, 0, 0, .null, .int) := by decide +kernel
theorem jF_250_27 : j_F 250 27 = some (.putfield 478, 3, 12, 56, .null, .int) := by decide +kernel
theorem jF_250_30 : j_F 250 30 = some (.return_, 1, 0, 0, .null, .int) := by decide +kernel
