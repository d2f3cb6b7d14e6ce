/-! CODE. -/
theorem jF_327_0 : j_F 327 0 = some (.aload_n 0, 1, 0, 0, .null, .int) := by decide +kernel
theorem jF_327_1 : j_F 327 1 = some (.getfield 212, 3, 12, 5, .null, .int) := by decide +kernel
theorem jF_327_4 : j_F 327 4 = some (.ifCond .eq 4, 3, 8, 0, .null, .int) := by decide +kernel
theorem jF_327_7 : j_F 327 7 = some (.return_, 1, 0, 0, .null, .int) := by decide +kernel
theorem jF_327_8 : j_F 327 8 = some (.aload_n 0, 1, 0, 0, .null, .int) := by decide +kernel
theorem jF_327_9 : j_F 327 9 = some (.getfield 576, 3, 12, 90, .null, .int) := by decide +kernel
theorem jF_327_12 : j_F 327 12 = some (.bipush 6, 2, 0, 0, .null, .int) := by decide +kernel
theorem jF_327_14 : j_F 327 14 = some (.if_icmp .ne 10, 3, 24, 0, .null, .int) := by decide +kernel
theorem jF_327_17 : j_F 327 17 = some (.aload_n 0, 1, 0, 0, .null, .int) := by decide +kernel
theorem jF_327_18 : j_F 327 18 = some (.iconst 4, 1, 0, 0, .null, .int) := by decide +kernel
theorem jF_327_19 : j_F 327 19 = some (.iload_n 2, 1, 0, 0, .null, .int) := by decide +kernel
theorem jF_327_20 : j_F 327 20 = some (.invokevirtual 242, 3, 218, 3, .null, .int) := by decide +kernel
theorem jF_327_23 : j_F 327 23 = some (.return_, 1, 0, 0, .null, .int) := by decide +kernel
theorem jF_327_24 : j_F 327 24 = some (.aload_n 0, 1, 0, 0, .null, .int) := by decide +kernel
theorem jF_327_25 : j_F 327 25 = some (.dup, 1, 0, 0, .null, .int) := by decide +kernel
theorem jF_327_26 : j_F 327 26 = some (.getfield 576, 3, 12, 90, .null, .int) := by decide +kernel
theorem jF_327_29 : j_F 327 29 = some (.iconst 1, 1, 0, 0, .null, .int) := by decide +kernel
theorem jF_327_30 : j_F 327 30 = some (.iadd, 1, 0, 0, .null, .int) := by decide +kernel
theorem jF_327_31 : j_F 327 31 = some (.putfield 576, 3, 12, 90, .null, .int) := by decide +kernel
theorem jF_327_34 : j_F 327 34 = some (.aload_n 0, 1, 0, 0, .null, .int) := by decide +kernel
theorem jF_327_35 : j_F 327 35 = some (.getfield 200, 3, 12, 88, .null, (.array .int)) := by decide +kernel
theorem jF_327_38 : j_F 327 38 = some (.aload_n 0, 1, 0, 0, .null, .int) := by decide +kernel
theorem jF_327_39 : j_F 327 39 = some (.getfield 579, 3, 12, 89, .null, .int) := by decide +kernel
theorem jF_327_42 : j_F 327 42 = some (.iload_n 1, 1, 0, 0, .null, .int) := by decide +kernel
theorem jF_327_43 : j_F 327 43 = some (.iastore, 1, 0, 0, .null, .int) := by decide +kernel
theorem jF_327_44 : j_F 327 44 = some (.aload_n 0, 1, 0, 0, .null, .int) := by decide +kernel
theorem jF_327_45 : j_F 327 45 = some (.dup, 1, 0, 0, .null, .int) := by decide +kernel
theorem jF_327_46 : j_F 327 46 = some (.getfield 579, 3, 12, 89, .null, .int) := by decide +kernel
theorem jF_327_49 : j_F 327 49 = some (.iconst 1, 1, 0, 0, .null, .int) := by decide +kernel
theorem jF_327_50 : j_F 327 50 = some (.iadd, 1, 0, 0, .null, .int) := by decide +kernel
theorem jF_327_51 : j_F 327 51 = some (.putfield 579, 3, 12, 89, .null, .int) := by decide +kernel
theorem jF_327_54 : j_F 327 54 = some (.return_, 1, 0, 0, .null, .int) := by decide +kernel
theorem jF_329_0 : j_F 329 0 = some (.aload_n 0, 1, 0, 0, .null, .int) := by decide +kernel
theorem jF_329_1 : j_F 329 1 = some (.getfield 197, 3, 12, 86, .null, (.array .int)) := by decide +kernel
theorem jF_329_4 : j_F 329 4 = some (.aload_n 0, 1, 0, 0, .null, .int) := by decide +kernel
theorem jF_329_5 : j_F 329 5 = some (.getfield 573, 3, 12, 87, .null, .int) := by decide +kernel
theorem jF_329_8 : j_F 329 8 = some (.iload_n 1, 1, 0, 0, .null, .int) := by decide +kernel
theorem jF_329_9 : j_F 329 9 = some (.iastore, 1, 0, 0, .null, .int) := by decide +kernel
theorem jF_329_10 : j_F 329 10 = some (.aload_n 0, 1, 0, 0, .null, .int) := by decide +kernel
theorem jF_329_11 : j_F 329 11 = some (.dup, 1, 0, 0, .null, .int) := by decide +kernel
theorem jF_329_12 : j_F 329 12 = some (.getfield 573, 3, 12, 87, .null, .int) := by decide +kernel
theorem jF_329_15 : j_F 329 15 = some (.iconst 1, 1, 0, 0, .null, .int) := by decide +kernel
theorem jF_329_16 : j_F 329 16 = some (.iadd, 1, 0, 0, .null, .int) := by decide +kernel
theorem jF_329_17 : j_F 329 17 = some (.putfield 573, 3, 12, 87, .null, .int) := by decide +kernel
theorem jF_329_20 : j_F 329 20 = some (.return_, 1, 0, 0, .null, .int) := by decide +kernel
theorem jF_331_0 : j_F 331 0 = some (.iconst 1, 1, 0, 0, .null, .int) := by decide +kernel
theorem jF_331_1 : j_F 331 1 = some (.istore_n 1, 1, 0, 0, .null, .int) := by decide +kernel
theorem jF_331_2 : j_F 331 2 = some (.iload_n 1, 1, 0, 0, .null, .int) := by decide +kernel
theorem jF_331_3 : j_F 331 3 = some (.ifCond .eq 183, 3, 186, 0, .null, .int) := by decide +kernel
theorem jF_331_6 : j_F 331 6 = some (.aload_n 0, 1, 0, 0, .null, .int) := by decide +kernel
theorem jF_331_7 : j_F 331 7 = some (.getfield 212, 3, 12, 5, .null, .int) := by decide +kernel
theorem jF_331_10 : j_F 331 10 = some (.ifCond .ne 176, 3, 186, 0, .null, .int) := by decide +kernel
theorem jF_331_13 : j_F 331 13 = some (.aload_n 0, 1, 0, 0, .null, .int) := by decide +kernel
theorem jF_331_14 : j_F 331 14 = some (.invokevirtual 224, 3, 216, 1, .null, .int) := by decide +kernel
theorem jF_331_17 : j_F 331 17 = some (.istore_n 2, 1, 0, 0, .null, .int) := by decide +kernel
theorem jF_331_18 : j_F 331 18 = some (.aload_n 0, 1, 0, 0, .null, .int) := by decide +kernel
theorem jF_331_19 : j_F 331 19 = some (.bipush 6, 2, 0, 0, .null, .int) := by decide +kernel
theorem jF_331_21 : j_F 331 21 = some (.bipush 7, 2, 0, 0, .null, .int) := by decide +kernel
theorem jF_331_23 : j_F 331 23 = some (.invokevirtual 597, 3, 332, 3, .null, .int) := by decide +kernel
theorem jF_331_26 : j_F 331 26 = some (.istore_n 3, 1, 0, 0, .null, .int) := by decide +kernel
theorem jF_331_27 : j_F 331 27 = some (.iload_n 2, 1, 0, 0, .null, .int) := by decide +kernel
theorem jF_331_28 : j_F 331 28 = some (.bipush 40, 2, 0, 0, .null, .int) := by decide +kernel
theorem jF_331_30 : j_F 331 30 = some (.if_icmp .ne 26, 3, 56, 0, .null, .int) := by decide +kernel
theorem jF_331_33 : j_F 331 33 = some (.aload_n 0, 1, 0, 0, .null, .int) := by decide +kernel
theorem jF_331_34 : j_F 331 34 = some (.bipush 20, 2, 0, 0, .null, .int) := by decide +kernel
theorem jF_331_36 : j_F 331 36 = some (.aload_n 0, 1, 0, 0, .null, .int) := by decide +kernel
theorem jF_331_37 : j_F 331 37 = some (.getfield 218, 3, 12, 2, .null, .int) := by decide +kernel
theorem jF_331_40 : j_F 331 40 = some (.invokevirtual 600, 3, 327, 3, .null, .int) := by decide +kernel
theorem jF_331_43 : j_F 331 43 = some (.aload_n 0, 1, 0, 0, .null, .int) := by decide +kernel
theorem jF_331_44 : j_F 331 44 = some (.dup, 1, 0, 0, .null, .int) := by decide +kernel
theorem jF_331_45 : j_F 331 45 = some (.getfield 218, 3, 12, 2, .null, .int) := by decide +kernel
theorem jF_331_48 : j_F 331 48 = some (.iconst 1, 1, 0, 0, .null, .int) := by decide +kernel
theorem jF_331_49 : j_F 331 49 = some (.iadd, 1, 0, 0, .null, .int) := by decide +kernel
theorem jF_331_50 : j_F 331 50 = some (.putfield 218, 3, 12, 2, .null, .int) := by decide +kernel
theorem jF_331_53 : j_F 331 53 = some (.goto 130, 3, 183, 0, .null, .int) := by decide +kernel
theorem jF_331_56 : j_F 331 56 = some (.aload_n 0, 1, 0, 0, .null, .int) := by decide +kernel
theorem jF_331_57 : j_F 331 57 = some (.aload_n 0, 1, 0, 0, .null, .int) := by decide +kernel
theorem jF_331_58 : j_F 331 58 = some (.getfield 170, 3, 12, 77, .null, (.array .char)) := by decide +kernel
theorem jF_331_61 : j_F 331 61 = some (.invokevirtual 235, 3, 220, 2, .null, .int) := by decide +kernel
theorem jF_331_64 : j_F 331 64 = some (.ifCond .ne 14, 3, 78, 0, .null, .int) := by decide +kernel
theorem jF_331_67 : j_F 331 67 = some (.aload_n 0, 1, 0, 0, .null, .int) := by decide +kernel
theorem jF_331_68 : j_F 331 68 = some (.aload_n 0, 1, 0, 0, .null, .int) := by decide +kernel
theorem jF_331_69 : j_F 331 69 = some (.getfield 173, 3, 12, 78, .null, (.array .char)) := by decide +kernel
theorem jF_331_72 : j_F 331 72 = some (.invokevirtual 235, 3, 220, 2, .null, .int) := by decide +kernel
theorem jF_331_75 : j_F 331 75 = some (.ifCond .eq 78, 3, 153, 0, .null, .int) := by decide +kernel
theorem jF_331_78 : j_F 331 78 = some (.aload_n 0, 1, 0, 0, .null, .int) := by decide +kernel
theorem jF_331_79 : j_F 331 79 = some (.aload_n 0, 1, 0, 0, .null, .int) := by decide +kernel
theorem jF_331_80 : j_F 331 80 = some (.getfield 170, 3, 12, 77, .null, (.array .char)) := by decide +kernel
theorem jF_331_83 : j_F 331 83 = some (.invokevirtual 239, 3, 219, 2, .null, .int) := by decide +kernel
theorem jF_331_86 : j_F 331 86 = some (.istore 4, 2, 0, 0, .null, .int) := by decide +kernel
theorem jF_331_88 : j_F 331 88 = some (.iload 4, 2, 0, 0, .null, .int) := by decide +kernel
theorem jF_331_90 : j_F 331 90 = some (.ifCond .ne 11, 3, 101, 0, .null, .int) := by decide +kernel
theorem jF_331_93 : j_F 331 93 = some (.aload_n 0, 1, 0, 0, .null, .int) := by decide +kernel
theorem jF_331_94 : j_F 331 94 = some (.aload_n 0, 1, 0, 0, .null, .int) := by decide +kernel
theorem jF_331_95 : j_F 331 95 = some (.getfield 173, 3, 12, 78, .null, (.array .char)) := by decide +kernel
theorem jF_331_98 : j_F 331 98 = some (.invokevirtual 288, 3, 234, 2, .null, .int) := by decide +kernel
theorem jF_331_101 : j_F 331 101 = some (.aload_n 0, 1, 0, 0, .null, .int) := by decide +kernel
theorem jF_331_102 : j_F 331 102 = some (.invokevirtual 224, 3, 216, 1, .null, .int) := by decide +kernel
theorem jF_331_105 : j_F 331 105 = some (.bipush 40, 2, 0, 0, .null, .int) := by decide +kernel
theorem jF_331_107 : j_F 331 107 = some (.if_icmp .ne 10, 3, 117, 0, .null, .int) := by decide +kernel
theorem jF_331_110 : j_F 331 110 = some (.aload_n 0, 1, 0, 0, .null, .int) := by decide +kernel
theorem jF_331_111 : j_F 331 111 = some (.getfield 218, 3, 12, 2, .null, .int) := by decide +kernel
theorem jF_331_114 : j_F 331 114 = some (.goto 4, 3, 118, 0, .null, .int) := by decide +kernel
theorem jF_331_117 : j_F 331 117 = some (.iconst (-1), 1, 0, 0, .null, .int) := by decide +kernel
theorem jF_331_118 : j_F 331 118 = some (.istore 5, 2, 0, 0, .null, .int) := by decide +kernel
theorem jF_331_120 : j_F 331 120 = some (.iload 5, 2, 0, 0, .null, .int) := by decide +kernel
theorem jF_331_122 : j_F 331 122 = some (.iconst (-1), 1, 0, 0, .null, .int) := by decide +kernel
theorem jF_331_123 : j_F 331 123 = some (.if_icmp .eq 21, 3, 144, 0, .null, .int) := by decide +kernel
theorem jF_331_126 : j_F 331 126 = some (.aload_n 0, 1, 0, 0, .null, .int) := by decide +kernel
theorem jF_331_127 : j_F 331 127 = some (.iload 4, 2, 0, 0, .null, .int) := by decide +kernel
theorem jF_331_129 : j_F 331 129 = some (.ifCond .eq 8, 3, 137, 0, .null, .int) := by decide +kernel
theorem jF_331_132 : j_F 331 132 = some (.bipush 21, 2, 0, 0, .null, .int) := by decide +kernel
theorem jF_331_134 : j_F 331 134 = some (.goto 5, 3, 139, 0, .null, .int) := by decide +kernel
theorem jF_331_137 : j_F 331 137 = some (.bipush 22, 2, 0, 0, .null, .int) := by decide +kernel
theorem jF_331_139 : j_F 331 139 = some (.iload 5, 2, 0, 0, .null, .int) := by decide +kernel
theorem jF_331_141 : j_F 331 141 = some (.invokevirtual 600, 3, 327, 3, .null, .int) := by decide +kernel
theorem jF_331_144 : j_F 331 144 = some (.aload_n 0, 1, 0, 0, .null, .int) := by decide +kernel
theorem jF_331_145 : j_F 331 145 = some (.bipush 40, 2, 0, 0, .null, .int) := by decide +kernel
theorem jF_331_147 : j_F 331 147 = some (.invokevirtual 322, 3, 238, 2, .null, .int) := by decide +kernel
theorem jF_331_150 : j_F 331 150 = some (.goto 33, 3, 183, 0, .null, .int) := by decide +kernel
theorem jF_331_153 : j_F 331 153 = some (.iload_n 3, 1, 0, 0, .null, .int) := by decide +kernel
theorem jF_331_154 : j_F 331 154 = some (.iconst (-1), 1, 0, 0, .null, .int) := by decide +kernel
theorem jF_331_155 : j_F 331 155 = some (.if_icmp .eq 26, 3, 181, 0, .null, .int) := by decide +kernel
theorem jF_331_158 : j_F 331 158 = some (.aload_n 0, 1, 0, 0, .null, .int) := by decide +kernel
theorem jF_331_159 : j_F 331 159 = some (.bipush 60, 2, 0, 0, .null, .int) := by decide +kernel
theorem jF_331_161 : j_F 331 161 = some (.iload_n 3, 1, 0, 0, .null, .int) := by decide +kernel
theorem jF_331_162 : j_F 331 162 = some (.iadd, 1, 0, 0, .null, .int) := by decide +kernel
theorem jF_331_163 : j_F 331 163 = some (.bipush 6, 2, 0, 0, .null, .int) := by decide +kernel
theorem jF_331_165 : j_F 331 165 = some (.isub, 1, 0, 0, .null, .int) := by decide +kernel
theorem jF_331_166 : j_F 331 166 = some (.aload_n 0, 1, 0, 0, .null, .int) := by decide +kernel
theorem jF_331_167 : j_F 331 167 = some (.getfield 218, 3, 12, 2, .null, .int) := by decide +kernel
theorem jF_331_170 : j_F 331 170 = some (.invokevirtual 600, 3, 327, 3, .null, .int) := by decide +kernel
theorem jF_331_173 : j_F 331 173 = some (.aload_n 0, 1, 0, 0, .null, .int) := by decide +kernel
theorem jF_331_174 : j_F 331 174 = some (.iload_n 3, 1, 0, 0, .null, .int) := by decide +kernel
theorem jF_331_175 : j_F 331 175 = some (.invokevirtual 603, 3, 334, 2, .null, .int) := by decide +kernel
theorem jF_331_178 : j_F 331 178 = some (.goto 5, 3, 183, 0, .null, .int) := by decide +kernel
theorem jF_331_181 : j_F 331 181 = some (.iconst 0, 1, 0, 0, .null, .int) := by decide +kernel
theorem jF_331_182 : j_F 331 182 = some (.istore_n 1, 1, 0, 0, .null, .int) := by decide +kernel
theorem jF_331_183 : j_F 331 183 = some (.goto (-181), 3, 2, 0, .null, .int) := by decide +kernel
theorem jF_331_186 : j_F 331 186 = some (.aload_n 0, 1, 0, 0, .null, .int) := by decide +kernel
theorem jF_331_187 : j_F 331 187 = some (.getfield 212, 3, 12, 5, .null, .int) := by decide +kernel
theorem jF_331_190 : j_F 331 190 = some (.ifCond .eq 4, 3, 194, 0, .null, .int) := by decide +kernel
theorem jF_331_193 : j_F 331 193 = some (.return_, 1, 0, 0, .null, .int) := by decide +kernel
theorem jF_331_194 : j_F 331 194 = some (.aload_n 0, 1, 0, 0, .null, .int) := by decide +kernel
theorem jF_331_195 : j_F 331 195 = some (.iconst 0, 1, 0, 0, .null, .int) := by decide +kernel
theorem jF_331_196 : j_F 331 196 = some (.bipush 6, 2, 0, 0, .null, .int) := by decide +kernel
theorem jF_331_198 : j_F 331 198 = some (.invokevirtual 597, 3, 332, 3, .null, .int) := by decide +kernel
theorem jF_331_201 : j_F 331 201 = some (.istore_n 2, 1, 0, 0, .null, .int) := by decide +kernel
theorem jF_331_202 : j_F 331 202 = some (.iload_n 2, 1, 0, 0, .null, .int) := by decide +kernel
theorem jF_331_203 : j_F 331 203 = some (.iconst (-1), 1, 0, 0, .null, .int) := by decide +kernel
theorem jF_331_204 : j_F 331 204 = some (.if_icmp .eq 8, 3, 212, 0, .null, .int) := by decide +kernel
theorem jF_331_207 : j_F 331 207 = some (.aload_n 0, 1, 0, 0, .null, .int) := by decide +kernel
theorem jF_331_208 : j_F 331 208 = some (.iload_n 2, 1, 0, 0, .null, .int) := by decide +kernel
theorem jF_331_209 : j_F 331 209 = some (.invokevirtual 603, 3, 334, 2, .null, .int) := by decide +kernel
theorem jF_331_212 : j_F 331 212 = some (.aload_n 0, 1, 0, 0, .null, .int) := by decide +kernel
theorem jF_331_213 : j_F 331 213 = some (.iload_n 2, 1, 0, 0, .null, .int) := by decide +kernel
theorem jF_331_214 : j_F 331 214 = some (.iconst (-1), 1, 0, 0, .null, .int) := by decide +kernel
theorem jF_331_215 : j_F 331 215 = some (.if_icmp .eq 10, 3, 225, 0, .null, .int) := by decide +kernel
theorem jF_331_218 : j_F 331 218 = some (.bipush 40, 2, 0, 0, .null, .int) := by decide +kernel
theorem jF_331_220 : j_F 331 220 = some (.iload_n 2, 1, 0, 0, .null, .int) := by decide +kernel
theorem jF_331_221 : j_F 331 221 = some (.iadd, 1, 0, 0, .null, .int) := by decide +kernel
theorem jF_331_222 : j_F 331 222 = some (.goto 15, 3, 237, 0, .null, .int) := by decide +kernel
theorem jF_331_225 : j_F 331 225 = some (.sipush 1000, 3, 0, 0, .null, .int) := by decide +kernel
theorem jF_331_228 : j_F 331 228 = some (.aload_n 0, 1, 0, 0, .null, .int) := by decide +kernel
theorem jF_331_229 : j_F 331 229 = some (.iconst 0, 1, 0, 0, .null, .int) := by decide +kernel
theorem jF_331_230 : j_F 331 230 = some (.sipush 9999, 3, 0, 0, .null, .int) := by decide +kernel
theorem jF_331_233 : j_F 331 233 = some (.invokevirtual 292, 3, 230, 3, .null, .int) := by decide +kernel
theorem jF_331_236 : j_F 331 236 = some (.iadd, 1, 0, 0, .null, .int) := by decide +kernel
theorem jF_331_237 : j_F 331 237 = some (.invokevirtual 582, 3, 329, 2, .null, .int) := by decide +kernel
theorem jF_331_240 : j_F 331 240 = some (.aload_n 0, 1, 0, 0, .null, .int) := by decide +kernel
theorem jF_331_241 : j_F 331 241 = some (.invokevirtual 606, 3, 335, 1, .null, .int) := by decide +kernel
theorem jF_331_244 : j_F 331 244 = some (.return_, 1, 0, 0, .null, .int) := by decide +kernel
theorem jF_332_0 : j_F 332 0 = some (.aload_n 0, 1, 0, 0, .null, .int) := by decide +kernel
theorem jF_332_1 : j_F 332 1 = some (.invokevirtual 594, 3, 333, 1, .null, .int) := by decide +kernel
theorem jF_332_4 : j_F 332 4 = some (.istore_n 3, 1, 0, 0, .null, .int) := by decide +kernel
theorem jF_332_5 : j_F 332 5 = some (.iload_n 3, 1, 0, 0, .null, .int) := by decide +kernel
theorem jF_332_6 : j_F 332 6 = some (.iload_n 1, 1, 0, 0, .null, .int) := by decide +kernel
theorem jF_332_7 : j_F 332 7 = some (.if_icmp .lt 12, 3, 19, 0, .null, .int) := by decide +kernel
theorem jF_332_10 : j_F 332 10 = some (.iload_n 3, 1, 0, 0, .null, .int) := by decide +kernel
theorem jF_332_11 : j_F 332 11 = some (.iload_n 2, 1, 0, 0, .null, .int) := by decide +kernel
theorem jF_332_12 : j_F 332 12 = some (.if_icmp .ge 7, 3, 19, 0, .null, .int) := by decide +kernel
theorem jF_332_15 : j_F 332 15 = some (.iload_n 3, 1, 0, 0, .null, .int) := by decide +kernel
theorem jF_332_16 : j_F 332 16 = some (.goto 4, 3, 20, 0, .null, .int) := by decide +kernel
theorem jF_332_19 : j_F 332 19 = some (.iconst (-1), 1, 0, 0, .null, .int) := by decide +kernel
theorem jF_332_20 : j_F 332 20 = some (.ireturn, 1, 0, 0, .null, .int) := by decide +kernel
theorem jF_333_0 : j_F 333 0 = some (.aload_n 0, 1, 0, 0, .null, .int) := by decide +kernel
theorem jF_333_1 : j_F 333 1 = some (.aload_n 0, 1, 0, 0, .null, .int) := by decide +kernel
theorem jF_333_2 : j_F 333 2 = some (.getfield 176, 3, 12, 79, .null, (.array .char)) := by decide +kernel
theorem jF_333_5 : j_F 333 5 = some (.invokevirtual 235, 3, 220, 2, .null, .int) := by decide +kernel
theorem jF_333_8 : j_F 333 8 = some (.ifCond .eq 5, 3, 13, 0, .null, .int) := by decide +kernel
theorem jF_333_11 : j_F 333 11 = some (.iconst 0, 1, 0, 0, .null, .int) := by decide +kernel
theorem jF_333_12 : j_F 333 12 = some (.ireturn, 1, 0, 0, .null, .int) := by decide +kernel
theorem jF_333_13 : j_F 333 13 = some (.aload_n 0, 1, 0, 0, .null, .int) := by decide +kernel
theorem jF_333_14 : j_F 333 14 = some (.aload_n 0, 1, 0, 0, .null, .int) := by decide +kernel
theorem jF_333_15 : j_F 333 15 = some (.getfield 179, 3, 12, 80, .null, (.array .char)) := by decide +kernel
theorem jF_333_18 : j_F 333 18 = some (.invokevirtual 235, 3, 220, 2, .null, .int) := by decide +kernel
theorem jF_333_21 : j_F 333 21 = some (.ifCond .eq 5, 3, 26, 0, .null, .int) := by decide +kernel
theorem jF_333_24 : j_F 333 24 = some (.iconst 1, 1, 0, 0, .null, .int) := by decide +kernel
theorem jF_333_25 : j_F 333 25 = some (.ireturn, 1, 0, 0, .null, .int) := by decide +kernel
theorem jF_333_26 : j_F 333 26 = some (.aload_n 0, 1, 0, 0, .null, .int) := by decide +kernel
theorem jF_333_27 : j_F 333 27 = some (.aload_n 0, 1, 0, 0, .null, .int) := by decide +kernel
theorem jF_333_28 : j_F 333 28 = some (.getfield 182, 3, 12, 81, .null, (.array .char)) := by decide +kernel
theorem jF_333_31 : j_F 333 31 = some (.invokevirtual 235, 3, 220, 2, .null, .int) := by decide +kernel
theorem jF_333_34 : j_F 333 34 = some (.ifCond .eq 5, 3, 39, 0, .null, .int) := by decide +kernel
theorem jF_333_37 : j_F 333 37 = some (.iconst 2, 1, 0, 0, .null, .int) := by decide +kernel
theorem jF_333_38 : j_F 333 38 = some (.ireturn, 1, 0, 0, .null, .int) := by decide +kernel
theorem jF_333_39 : j_F 333 39 = some (.aload_n 0, 1, 0, 0, .null, .int) := by decide +kernel
theorem jF_333_40 : j_F 333 40 = some (.aload_n 0, 1, 0, 0, .null, .int) := by decide +kernel
theorem jF_333_41 : j_F 333 41 = some (.getfield 185, 3, 12, 82, .null, (.array .char)) := by decide +kernel
theorem jF_333_44 : j_F 333 44 = some (.invokevirtual 235, 3, 220, 2, .null, .int) := by decide +kernel
theorem jF_333_47 : j_F 333 47 = some (.ifCond .eq 5, 3, 52, 0, .null, .int) := by decide +kernel
theorem jF_333_50 : j_F 333 50 = some (.iconst 3, 1, 0, 0, .null, .int) := by decide +kernel
theorem jF_333_51 : j_F 333 51 = some (.ireturn, 1, 0, 0, .null, .int) := by decide +kernel
theorem jF_333_52 : j_F 333 52 = some (.aload_n 0, 1, 0, 0, .null, .int) := by decide +kernel
theorem jF_333_53 : j_F 333 53 = some (.aload_n 0, 1, 0, 0, .null, .int) := by decide +kernel
theorem jF_333_54 : j_F 333 54 = some (.getfield 188, 3, 12, 83, .null, (.array .char)) := by decide +kernel
theorem jF_333_57 : j_F 333 57 = some (.invokevirtual 235, 3, 220, 2, .null, .int) := by decide +kernel
theorem jF_333_60 : j_F 333 60 = some (.ifCond .eq 5, 3, 65, 0, .null, .int) := by decide +kernel
theorem jF_333_63 : j_F 333 63 = some (.iconst 4, 1, 0, 0, .null, .int) := by decide +kernel
theorem jF_333_64 : j_F 333 64 = some (.ireturn, 1, 0, 0, .null, .int) := by decide +kernel
theorem jF_333_65 : j_F 333 65 = some (.aload_n 0, 1, 0, 0, .null, .int) := by decide +kernel
theorem jF_333_66 : j_F 333 66 = some (.aload_n 0, 1, 0, 0, .null, .int) := by decide +kernel
theorem jF_333_67 : j_F 333 67 = some (.getfield 191, 3, 12, 84, .null, (.array .char)) := by decide +kernel
theorem jF_333_70 : j_F 333 70 = some (.invokevirtual 235, 3, 220, 2, .null, .int) := by decide +kernel
theorem jF_333_73 : j_F 333 73 = some (.ifCond .eq 5, 3, 78, 0, .null, .int) := by decide +kernel
theorem jF_333_76 : j_F 333 76 = some (.iconst 5, 1, 0, 0, .null, .int) := by decide +kernel
theorem jF_333_77 : j_F 333 77 = some (.ireturn, 1, 0, 0, .null, .int) := by decide +kernel
theorem jF_333_78 : j_F 333 78 = some (.aload_n 0, 1, 0, 0, .null, .int) := by decide +kernel
theorem jF_333_79 : j_F 333 79 = some (.aload_n 0, 1, 0, 0, .null, .int) := by decide +kernel
theorem jF_333_80 : j_F 333 80 = some (.getfield 194, 3, 12, 85, .null, (.array .char)) := by decide +kernel
theorem jF_333_83 : j_F 333 83 = some (.invokevirtual 235, 3, 220, 2, .null, .int) := by decide +kernel
theorem jF_333_86 : j_F 333 86 = some (.ifCond .eq 6, 3, 92, 0, .null, .int) := by decide +kernel
theorem jF_333_89 : j_F 333 89 = some (.bipush 6, 2, 0, 0, .null, .int) := by decide +kernel
theorem jF_333_91 : j_F 333 91 = some (.ireturn, 1, 0, 0, .null, .int) := by decide +kernel
theorem jF_333_92 : j_F 333 92 = some (.iconst (-1), 1, 0, 0, .null, .int) := by decide +kernel
theorem jF_333_93 : j_F 333 93 = some (.ireturn, 1, 0, 0, .null, .int) := by decide +kernel
theorem jF_334_0 : j_F 334 0 = some (.iload_n 1, 1, 0, 0, .null, .int) := by decide +kernel
theorem jF_334_1 : j_F 334 1 = some (.tableswitch 105 0 5 #[39, 50, 61, 72, 83, 94], 39, 0, 0, .null, .int) := by decide +kernel
theorem jF_334_40 : j_F 334 40 = some (.aload_n 0, 1, 0, 0, .null, .int) := by decide +kernel
theorem jF_334_41 : j_F 334 41 = some (.aload_n 0, 1, 0, 0, .null, .int) := by decide +kernel
theorem jF_334_42 : j_F 334 42 = some (.getfield 176, 3, 12, 79, .null, (.array .char)) := by decide +kernel
theorem jF_334_45 : j_F 334 45 = some (.invokevirtual 288, 3, 234, 2, .null, .int) := by decide +kernel
theorem jF_334_48 : j_F 334 48 = some (.goto 66, 3, 114, 0, .null, .int) := by decide +kernel
theorem jF_334_51 : j_F 334 51 = some (.aload_n 0, 1, 0, 0, .null, .int) := by decide +kernel
theorem jF_334_52 : j_F 334 52 = some (.aload_n 0, 1, 0, 0, .null, .int) := by decide +kernel
theorem jF_334_53 : j_F 334 53 = some (.getfield 179, 3, 12, 80, .null, (.array .char)) := by decide +kernel
theorem jF_334_56 : j_F 334 56 = some (.invokevirtual 288, 3, 234, 2, .null, .int) := by decide +kernel
theorem jF_334_59 : j_F 334 59 = some (.goto 55, 3, 114, 0, .null, .int) := by decide +kernel
theorem jF_334_62 : j_F 334 62 = some (.aload_n 0, 1, 0, 0, .null, .int) := by decide +kernel
theorem jF_334_63 : j_F 334 63 = some (.aload_n 0, 1, 0, 0, .null, .int) := by decide +kernel
theorem jF_334_64 : j_F 334 64 = some (.getfield 182, 3, 12, 81, .null, (.array .char)) := by decide +kernel
theorem jF_334_67 : j_F 334 67 = some (.invokevirtual 288, 3, 234, 2, .null, .int) := by decide +kernel
theorem jF_334_70 : j_F 334 70 = some (.goto 44, 3, 114, 0, .null, .int) := by decide +kernel
theorem jF_334_73 : j_F 334 73 = some (.aload_n 0, 1, 0, 0, .null, .int) := by decide +kernel
theorem jF_334_74 : j_F 334 74 = some (.aload_n 0, 1, 0, 0, .null, .int) := by decide +kernel
theorem jF_334_75 : j_F 334 75 = some (.getfield 185, 3, 12, 82, .null, (.array .char)) := by decide +kernel
theorem jF_334_78 : j_F 334 78 = some (.invokevirtual 288, 3, 234, 2, .null, .int) := by decide +kernel
theorem jF_334_81 : j_F 334 81 = some (.goto 33, 3, 114, 0, .null, .int) := by decide +kernel
theorem jF_334_84 : j_F 334 84 = some (.aload_n 0, 1, 0, 0, .null, .int) := by decide +kernel
theorem jF_334_85 : j_F 334 85 = some (.aload_n 0, 1, 0, 0, .null, .int) := by decide +kernel
theorem jF_334_86 : j_F 334 86 = some (.getfield 188, 3, 12, 83, .null, (.array .char)) := by decide +kernel
theorem jF_334_89 : j_F 334 89 = some (.invokevirtual 288, 3, 234, 2, .null, .int) := by decide +kernel
theorem jF_334_92 : j_F 334 92 = some (.goto 22, 3, 114, 0, .null, .int) := by decide +kernel
theorem jF_334_95 : j_F 334 95 = some (.aload_n 0, 1, 0, 0, .null, .int) := by decide +kernel
theorem jF_334_96 : j_F 334 96 = some (.aload_n 0, 1, 0, 0, .null, .int) := by decide +kernel
theorem jF_334_97 : j_F 334 97 = some (.getfield 191, 3, 12, 84, .null, (.array .char)) := by decide +kernel
theorem jF_334_100 : j_F 334 100 = some (.invokevirtual 288, 3, 234, 2, .null, .int) := by decide +kernel
theorem jF_334_103 : j_F 334 103 = some (.goto 11, 3, 114, 0, .null, .int) := by decide +kernel
theorem jF_334_106 : j_F 334 106 = some (.aload_n 0, 1, 0, 0, .null, .int) := by decide +kernel
theorem jF_334_107 : j_F 334 107 = some (.aload_n 0, 1, 0, 0, .null, .int) := by decide +kernel
theorem jF_334_108 : j_F 334 108 = some (.getfield 194, 3, 12, 85, .null, (.array .char)) := by decide +kernel
theorem jF_334_111 : j_F 334 111 = some (.invokevirtual 288, 3, 234, 2, .null, .int) := by decide +kernel
theorem jF_334_114 : j_F 334 114 = some (.return_, 1, 0, 0, .null, .int) := by decide +kernel
theorem jF_335_0 : j_F 335 0 = some (.aload_n 0, 1, 0, 0, .null, .int) := by decide +kernel
theorem jF_335_1 : j_F 335 1 = some (.getfield 212, 3, 12, 5, .null, .int) := by decide +kernel
theorem jF_335_4 : j_F 335 4 = some (.ifCond .ne 47, 3, 51, 0, .null, .int) := by decide +kernel
theorem jF_335_7 : j_F 335 7 = some (.aload_n 0, 1, 0, 0, .null, .int) := by decide +kernel
theorem jF_335_8 : j_F 335 8 = some (.getfield 579, 3, 12, 89, .null, .int) := by decide +kernel
theorem jF_335_11 : j_F 335 11 = some (.aload_n 0, 1, 0, 0, .null, .int) := by decide +kernel
theorem jF_335_12 : j_F 335 12 = some (.getfield 585, 3, 12, 91, .null, .int) := by decide +kernel
theorem jF_335_15 : j_F 335 15 = some (.if_icmp .le 36, 3, 51, 0, .null, .int) := by decide +kernel
theorem jF_335_18 : j_F 335 18 = some (.aload_n 0, 1, 0, 0, .null, .int) := by decide +kernel
theorem jF_335_19 : j_F 335 19 = some (.getfield 200, 3, 12, 88, .null, (.array .int)) := by decide +kernel
theorem jF_335_22 : j_F 335 22 = some (.aload_n 0, 1, 0, 0, .null, .int) := by decide +kernel
theorem jF_335_23 : j_F 335 23 = some (.getfield 579, 3, 12, 89, .null, .int) := by decide +kernel
theorem jF_335_26 : j_F 335 26 = some (.iconst 1, 1, 0, 0, .null, .int) := by decide +kernel
theorem jF_335_27 : j_F 335 27 = some (.isub, 1, 0, 0, .null, .int) := by decide +kernel
theorem jF_335_28 : j_F 335 28 = some (.iaload, 1, 0, 0, .null, .int) := by decide +kernel
theorem jF_335_29 : j_F 335 29 = some (.bipush 60, 2, 0, 0, .null, .int) := by decide +kernel
theorem jF_335_31 : j_F 335 31 = some (.if_icmp .lt 20, 3, 51, 0, .null, .int) := by decide +kernel
theorem jF_335_34 : j_F 335 34 = some (.aload_n 0, 1, 0, 0, .null, .int) := by decide +kernel
theorem jF_335_35 : j_F 335 35 = some (.dup, 1, 0, 0, .null, .int) := by decide +kernel
theorem jF_335_36 : j_F 335 36 = some (.getfield 576, 3, 12, 90, .null, .int) := by decide +kernel
theorem jF_335_39 : j_F 335 39 = some (.iconst 1, 1, 0, 0, .null, .int) := by decide +kernel
theorem jF_335_40 : j_F 335 40 = some (.isub, 1, 0, 0, .null, .int) := by decide +kernel
theorem jF_335_41 : j_F 335 41 = some (.putfield 576, 3, 12, 90, .null, .int) := by decide +kernel
theorem jF_335_44 : j_F 335 44 = some (.aload_n 0, 1, 0, 0, .null, .int) := by decide +kernel
theorem jF_335_45 : j_F 335 45 = some (.invokevirtual 591, 3, 336, 1, .null, .int) := by decide +kernel
theorem jF_335_48 : j_F 335 48 = some (.goto (-48), 3, 0, 0, .null, .int) := by decide +kernel
theorem jF_335_51 : j_F 335 51 = some (.return_, 1, 0, 0, .null, .int) := by decide +kernel
theorem jF_336_0 : j_F 336 0 = some (.aload_n 0, 1, 0, 0, .null, .int) := by decide +kernel
theorem jF_336_1 : j_F 336 1 = some (.dup, 1, 0, 0, .null, .int) := by decide +kernel
theorem jF_336_2 : j_F 336 2 = some (.getfield 579, 3, 12, 89, .null, .int) := by decide +kernel
theorem jF_336_5 : j_F 336 5 = some (.iconst 1, 1, 0, 0, .null, .int) := by decide +kernel
theorem jF_336_6 : j_F 336 6 = some (.isub, 1, 0, 0, .null, .int) := by decide +kernel
theorem jF_336_7 : j_F 336 7 = some (.putfield 579, 3, 12, 89, .null, .int) := by decide +kernel
theorem jF_336_10 : j_F 336 10 = some (.aload_n 0, 1, 0, 0, .null, .int) := by decide +kernel
theorem jF_336_11 : j_F 336 11 = some (.aload_n 0, 1, 0, 0, .null, .int) := by decide +kernel
theorem jF_336_12 : j_F 336 12 = some (.getfield 200, 3, 12, 88, .null, (.array .int)) := by decide +kernel
theorem jF_336_15 : j_F 336 15 = some (.aload_n 0, 1, 0, 0, .null, .int) := by decide +kernel
theorem jF_336_16 : j_F 336 16 = some (.getfield 579, 3, 12, 89, .null, .int) := by decide +kernel
theorem jF_336_19 : j_F 336 19 = some (.iaload, 1, 0, 0, .null, .int) := by decide +kernel
theorem jF_336_20 : j_F 336 20 = some (.invokevirtual 582, 3, 329, 2, .null, .int) := by decide +kernel
theorem jF_336_23 : j_F 336 23 = some (.return_, 1, 0, 0, .null, .int) := by decide +kernel
theorem jF_338_0 : j_F 338 0 = some (.aload_n 0, 1, 0, 0, .null, .int) := by decide +kernel
theorem jF_338_1 : j_F 338 1 = some (.getfield 579, 3, 12, 89, .null, .int) := by decide +kernel
theorem jF_338_4 : j_F 338 4 = some (.iconst 1, 1, 0, 0, .null, .int) := by decide +kernel
theorem jF_338_5 : j_F 338 5 = some (.isub, 1, 0, 0, .null, .int) := by decide +kernel
theorem jF_338_6 : j_F 338 6 = some (.istore_n 1, 1, 0, 0, .null, .int) := by decide +kernel
theorem jF_338_7 : j_F 338 7 = some (.iload_n 1, 1, 0, 0, .null, .int) := by decide +kernel
theorem jF_338_8 : j_F 338 8 = some (.aload_n 0, 1, 0, 0, .null, .int) := by decide +kernel
theorem jF_338_9 : j_F 338 9 = some (.getfield 585, 3, 12, 91, .null, .int) := by decide +kernel
theorem jF_338_12 : j_F 338 12 = some (.if_icmp .lt 21, 3, 33, 0, .null, .int) := by decide +kernel
theorem jF_338_15 : j_F 338 15 = some (.aload_n 0, 1, 0, 0, .null, .int) := by decide +kernel
theorem jF_338_16 : j_F 338 16 = some (.getfield 200, 3, 12, 88, .null, (.array .int)) := by decide +kernel
theorem jF_338_19 : j_F 338 19 = some (.iload_n 1, 1, 0, 0, .null, .int) := by decide +kernel
theorem jF_338_20 : j_F 338 20 = some (.iaload, 1, 0, 0, .null, .int) := by decide +kernel
theorem jF_338_21 : j_F 338 21 = some (.invokestatic 588, 3, 339, 1, .null, .int) := by decide +kernel
theorem jF_338_24 : j_F 338 24 = some (.ifCond .ne 9, 3, 33, 0, .null, .int) := by decide +kernel
theorem jF_338_27 : j_F 338 27 = some (.iinc 1 (-1), 3, 0, 0, .null, .int) := by decide +kernel
theorem jF_338_30 : j_F 338 30 = some (.goto (-23), 3, 7, 0, .null, .int) := by decide +kernel
theorem jF_338_33 : j_F 338 33 = some (.iload_n 1, 1, 0, 0, .null, .int) := by decide +kernel
theorem jF_338_34 : j_F 338 34 = some (.aload_n 0, 1, 0, 0, .null, .int) := by decide +kernel
theorem jF_338_35 : j_F 338 35 = some (.getfield 585, 3, 12, 91, .null, .int) := by decide +kernel
theorem jF_338_38 : j_F 338 38 = some (.if_icmp .lt 12, 3, 50, 0, .null, .int) := by decide +kernel
theorem jF_338_41 : j_F 338 41 = some (.aload_n 0, 1, 0, 0, .null, .int) := by decide +kernel
theorem jF_338_42 : j_F 338 42 = some (.getfield 200, 3, 12, 88, .null, (.array .int)) := by decide +kernel
theorem jF_338_45 : j_F 338 45 = some (.iload_n 1, 1, 0, 0, .null, .int) := by decide +kernel
theorem jF_338_46 : j_F 338 46 = some (.iaload, 1, 0, 0, .null, .int) := by decide +kernel
theorem jF_338_47 : j_F 338 47 = some (.goto 4, 3, 51, 0, .null, .int) := by decide +kernel
theorem jF_338_50 : j_F 338 50 = some (.iconst (-1), 1, 0, 0, .null, .int) := by decide +kernel
theorem jF_338_51 : j_F 338 51 = some (.ireturn, 1, 0, 0, .null, .int) := by decide +kernel
theorem jF_339_0 : j_F 339 0 = some (.iload_n 0, 1, 0, 0, .null, .int) := by decide +kernel
theorem jF_339_1 : j_F 339 1 = some (.bipush 20, 2, 0, 0, .null, .int) := by decide +kernel
theorem jF_339_3 : j_F 339 3 = some (.if_icmp .lt 13, 3, 16, 0, .null, .int) := by decide +kernel
theorem jF_339_6 : j_F 339 6 = some (.iload_n 0, 1, 0, 0, .null, .int) := by decide +kernel
theorem jF_339_7 : j_F 339 7 = some (.bipush 24, 2, 0, 0, .null, .int) := by decide +kernel
theorem jF_339_9 : j_F 339 9 = some (.if_icmp .gt 7, 3, 16, 0, .null, .int) := by decide +kernel
theorem jF_339_12 : j_F 339 12 = some (.iconst 1, 1, 0, 0, .null, .int) := by decide +kernel
theorem jF_339_13 : j_F 339 13 = some (.goto 4, 3, 17, 0, .null, .int) := by decide +kernel
theorem jF_339_16 : j_F 339 16 = some (.iconst 0, 1, 0, 0, .null, .int) := by decide +kernel
theorem jF_339_17 : j_F 339 17 = some (.ireturn, 1, 0, 0, .null, .boolean) := by decide +kernel
theorem jF_340_0 : j_F 340 0 = some (.aload_n 0, 1, 0, 0, .null, .int) := by decide +kernel
theorem jF_340_1 : j_F 340 1 = some (.getfield 579, 3, 12, 89, .null, .int) := by decide +kernel
theorem jF_340_4 : j_F 340 4 = some (.aload_n 0, 1, 0, 0, .null, .int) := by decide +kernel
theorem jF_340_5 : j_F 340 5 = some (.getfield 585, 3, 12, 91, .null, .int) := by decide +kernel
theorem jF_340_8 : j_F 340 8 = some (.if_icmp .le 27, 3, 35, 0, .null, .int) := by decide +kernel
theorem jF_340_11 : j_F 340 11 = some (.aload_n 0, 1, 0, 0, .null, .int) := by decide +kernel
theorem jF_340_12 : j_F 340 12 = some (.getfield 200, 3, 12, 88, .null, (.array .int)) := by decide +kernel
theorem jF_340_15 : j_F 340 15 = some (.aload_n 0, 1, 0, 0, .null, .int) := by decide +kernel
theorem jF_340_16 : j_F 340 16 = some (.getfield 579, 3, 12, 89, .null, .int) := by decide +kernel
theorem jF_340_19 : j_F 340 19 = some (.iconst 1, 1, 0, 0, .null, .int) := by decide +kernel
theorem jF_340_20 : j_F 340 20 = some (.isub, 1, 0, 0, .null, .int) := by decide +kernel
theorem jF_340_21 : j_F 340 21 = some (.iaload, 1, 0, 0, .null, .int) := by decide +kernel
theorem jF_340_22 : j_F 340 22 = some (.invokestatic 588, 3, 339, 1, .null, .int) := by decide +kernel
theorem jF_340_25 : j_F 340 25 = some (.ifCond .ne 10, 3, 35, 0, .null, .int) := by decide +kernel
theorem jF_340_28 : j_F 340 28 = some (.aload_n 0, 1, 0, 0, .null, .int) := by decide +kernel
theorem jF_340_29 : j_F 340 29 = some (.invokevirtual 591, 3, 336, 1, .null, .int) := by decide +kernel
theorem jF_340_32 : j_F 340 32 = some (.goto (-32), 3, 0, 0, .null, .int) := by decide +kernel
theorem jF_340_35 : j_F 340 35 = some (.return_, 1, 0, 0, .null, .int) := by decide +kernel
theorem jF_341_0 : j_F 341 0 = some (.aload_n 0, 1, 0, 0, .null, .int) := by decide +kernel
theorem jF_341_1 : j_F 341 1 = some (.getfield 579, 3, 12, 89, .null, .int) := by decide +kernel
theorem jF_341_4 : j_F 341 4 = some (.ifCond .le 22, 3, 26, 0, .null, .int) := by decide +kernel
theorem jF_341_7 : j_F 341 7 = some (.aload_n 0, 1, 0, 0, .null, .int) := by decide +kernel
theorem jF_341_8 : j_F 341 8 = some (.getfield 200, 3, 12, 88, .null, (.array .int)) := by decide +kernel
theorem jF_341_11 : j_F 341 11 = some (.aload_n 0, 1, 0, 0, .null, .int) := by decide +kernel
theorem jF_341_12 : j_F 341 12 = some (.getfield 579, 3, 12, 89, .null, .int) := by decide +kernel
theorem jF_341_15 : j_F 341 15 = some (.iconst 1, 1, 0, 0, .null, .int) := by decide +kernel
theorem jF_341_16 : j_F 341 16 = some (.isub, 1, 0, 0, .null, .int) := by decide +kernel
theorem jF_341_17 : j_F 341 17 = some (.iaload, 1, 0, 0, .null, .int) := by decide +kernel
theorem jF_341_18 : j_F 341 18 = some (.iload_n 1, 1, 0, 0, .null, .int) := by decide +kernel
theorem jF_341_19 : j_F 341 19 = some (.if_icmp .ne 7, 3, 26, 0, .null, .int) := by decide +kernel
theorem jF_341_22 : j_F 341 22 = some (.iconst 1, 1, 0, 0, .null, .int) := by decide +kernel
theorem jF_341_23 : j_F 341 23 = some (.goto 4, 3, 27, 0, .null, .int) := by decide +kernel
theorem jF_341_26 : j_F 341 26 = some (.iconst 0, 1, 0, 0, .null, .int) := by decide +kernel
theorem jF_341_27 : j_F 341 27 = some (.ireturn, 1, 0, 0, .null, .boolean) := by decide +kernel
