theorem jF_216_0 : j_F 216 0 = some (.aload_n 0, 1, 0, 0, .null, .int) := by decide +kernel
theorem jF_216_1 : j_F 216 1 = some (.getfield 218, 3, 12, 2, .null, .int) := by decide +kernel
theorem jF_216_4 : j_F 216 4 = some (.aload_n 0, 1, 0, 0, .null, .int) := by decide +kernel
theorem jF_216_5 : j_F 216 5 = some (.getfield 221, 3, 12, 3, .null, .int) := by decide +kernel
theorem jF_216_8 : j_F 216 8 = some (.if_icmp .ge 44, 3, 52, 0, .null, .int) := by decide +kernel
theorem jF_216_11 : j_F 216 11 = some (.aload_n 0, 1, 0, 0, .null, .int) := by decide +kernel
theorem jF_216_12 : j_F 216 12 = some (.getfield 7, 3, 12, 0, .null, (.array .int)) := by decide +kernel
theorem jF_216_15 : j_F 216 15 = some (.aload_n 0, 1, 0, 0, .null, .int) := by decide +kernel
theorem jF_216_16 : j_F 216 16 = some (.getfield 218, 3, 12, 2, .null, .int) := by decide +kernel
theorem jF_216_19 : j_F 216 19 = some (.iaload, 1, 0, 0, .null, .int) := by decide +kernel
theorem jF_216_20 : j_F 216 20 = some (.bipush 10, 2, 0, 0, .null, .int) := by decide +kernel
theorem jF_216_22 : j_F 216 22 = some (.if_icmp .eq 17, 3, 39, 0, .null, .int) := by decide +kernel
theorem jF_216_25 : j_F 216 25 = some (.aload_n 0, 1, 0, 0, .null, .int) := by decide +kernel
theorem jF_216_26 : j_F 216 26 = some (.getfield 7, 3, 12, 0, .null, (.array .int)) := by decide +kernel
theorem jF_216_29 : j_F 216 29 = some (.aload_n 0, 1, 0, 0, .null, .int) := by decide +kernel
theorem jF_216_30 : j_F 216 30 = some (.getfield 218, 3, 12, 2, .null, .int) := by decide +kernel
theorem jF_216_33 : j_F 216 33 = some (.iaload, 1, 0, 0, .null, .int) := by decide +kernel
theorem jF_216_34 : j_F 216 34 = some (.bipush 32, 2, 0, 0, .null, .int) := by decide +kernel
theorem jF_216_36 : j_F 216 36 = some (.if_icmp .ne 16, 3, 52, 0, .null, .int) := by decide +kernel
theorem jF_216_39 : j_F 216 39 = some (.aload_n 0, 1, 0, 0, .null, .int) := by decide +kernel
theorem jF_216_40 : j_F 216 40 = some (.dup, 1, 0, 0, .null, .int) := by decide +kernel
theorem jF_216_41 : j_F 216 41 = some (.getfield 218, 3, 12, 2, .null, .int) := by decide +kernel
theorem jF_216_44 : j_F 216 44 = some (.iconst 1, 1, 0, 0, .null, .int) := by decide +kernel
theorem jF_216_45 : j_F 216 45 = some (.iadd, 1, 0, 0, .null, .int) := by decide +kernel
theorem jF_216_46 : j_F 216 46 = some (.putfield 218, 3, 12, 2, .null, .int) := by decide +kernel
theorem jF_216_49 : j_F 216 49 = some (.goto (-49), 3, 0, 0, .null, .int) := by decide +kernel
theorem jF_216_52 : j_F 216 52 = some (.aload_n 0, 1, 0, 0, .null, .int) := by decide +kernel
theorem jF_216_53 : j_F 216 53 = some (.getfield 218, 3, 12, 2, .null, .int) := by decide +kernel
theorem jF_216_56 : j_F 216 56 = some (.aload_n 0, 1, 0, 0, .null, .int) := by decide +kernel
theorem jF_216_57 : j_F 216 57 = some (.getfield 221, 3, 12, 3, .null, .int) := by decide +kernel
theorem jF_216_60 : j_F 216 60 = some (.if_icmp .ge 15, 3, 75, 0, .null, .int) := by decide +kernel
theorem jF_216_63 : j_F 216 63 = some (.aload_n 0, 1, 0, 0, .null, .int) := by decide +kernel
theorem jF_216_64 : j_F 216 64 = some (.getfield 7, 3, 12, 0, .null, (.array .int)) := by decide +kernel
theorem jF_216_67 : j_F 216 67 = some (.aload_n 0, 1, 0, 0, .null, .int) := by decide +kernel
theorem jF_216_68 : j_F 216 68 = some (.getfield 218, 3, 12, 2, .null, .int) := by decide +kernel
theorem jF_216_71 : j_F 216 71 = some (.iaload, 1, 0, 0, .null, .int) := by decide +kernel
theorem jF_216_72 : j_F 216 72 = some (.goto 4, 3, 76, 0, .null, .int) := by decide +kernel
theorem jF_216_75 : j_F 216 75 = some (.iconst (-1), 1, 0, 0, .null, .int) := by decide +kernel
theorem jF_216_76 : j_F 216 76 = some (.ireturn, 1, 0, 0, .null, .int) := by decide +kernel
theorem jF_217_0 : j_F 217 0 = some (.aload_n 0, 1, 0, 0, .null, .int) := by decide +kernel
theorem jF_217_1 : j_F 217 1 = some (.getfield 218, 3, 12, 2, .null, .int) := by decide +kernel
theorem jF_217_4 : j_F 217 4 = some (.istore_n 1, 1, 0, 0, .null, .int) := by decide +kernel
theorem jF_217_5 : j_F 217 5 = some (.aload_n 0, 1, 0, 0, .null, .int) := by decide +kernel
theorem jF_217_6 : j_F 217 6 = some (.getfield 302, 3, 12, 39, .null, .int) := by decide +kernel
theorem jF_217_9 : j_F 217 9 = some (.bipush 70, 2, 0, 0, .null, .int) := by decide +kernel
theorem jF_217_11 : j_F 217 11 = some (.if_icmp .ne 10, 3, 21, 0, .null, .int) := by decide +kernel
theorem jF_217_14 : j_F 217 14 = some (.aload_n 0, 1, 0, 0, .null, .int) := by decide +kernel
theorem jF_217_15 : j_F 217 15 = some (.iconst 5, 1, 0, 0, .null, .int) := by decide +kernel
theorem jF_217_16 : j_F 217 16 = some (.iload_n 1, 1, 0, 0, .null, .int) := by decide +kernel
theorem jF_217_17 : j_F 217 17 = some (.invokevirtual 242, 3, 218, 3, .null, .int) := by decide +kernel
theorem jF_217_20 : j_F 217 20 = some (.return_, 1, 0, 0, .null, .int) := by decide +kernel
theorem jF_217_21 : j_F 217 21 = some (.aload_n 0, 1, 0, 0, .null, .int) := by decide +kernel
theorem jF_217_22 : j_F 217 22 = some (.aload_n 0, 1, 0, 0, .null, .int) := by decide +kernel
theorem jF_217_23 : j_F 217 23 = some (.getfield 20, 3, 12, 10, .null, (.array .char)) := by decide +kernel
theorem jF_217_26 : j_F 217 26 = some (.invokevirtual 239, 3, 219, 2, .null, .int) := by decide +kernel
theorem jF_217_29 : j_F 217 29 = some (.ifCond .eq 12, 3, 41, 0, .null, .int) := by decide +kernel
theorem jF_217_32 : j_F 217 32 = some (.aload_n 0, 1, 0, 0, .null, .int) := by decide +kernel
theorem jF_217_33 : j_F 217 33 = some (.iconst 0, 1, 0, 0, .null, .int) := by decide +kernel
theorem jF_217_34 : j_F 217 34 = some (.iload_n 1, 1, 0, 0, .null, .int) := by decide +kernel
theorem jF_217_35 : j_F 217 35 = some (.invokevirtual 305, 3, 222, 3, .null, .int) := by decide +kernel
theorem jF_217_38 : j_F 217 38 = some (.goto 173, 3, 211, 0, .null, .int) := by decide +kernel
theorem jF_217_41 : j_F 217 41 = some (.aload_n 0, 1, 0, 0, .null, .int) := by decide +kernel
theorem jF_217_42 : j_F 217 42 = some (.aload_n 0, 1, 0, 0, .null, .int) := by decide +kernel
theorem jF_217_43 : j_F 217 43 = some (.getfield 24, 3, 12, 11, .null, (.array .char)) := by decide +kernel
theorem jF_217_46 : j_F 217 46 = some (.invokevirtual 239, 3, 219, 2, .null, .int) := by decide +kernel
theorem jF_217_49 : j_F 217 49 = some (.ifCond .eq 12, 3, 61, 0, .null, .int) := by decide +kernel
theorem jF_217_52 : j_F 217 52 = some (.aload_n 0, 1, 0, 0, .null, .int) := by decide +kernel
theorem jF_217_53 : j_F 217 53 = some (.iconst 1, 1, 0, 0, .null, .int) := by decide +kernel
theorem jF_217_54 : j_F 217 54 = some (.iload_n 1, 1, 0, 0, .null, .int) := by decide +kernel
theorem jF_217_55 : j_F 217 55 = some (.invokevirtual 305, 3, 222, 3, .null, .int) := by decide +kernel
theorem jF_217_58 : j_F 217 58 = some (.goto 153, 3, 211, 0, .null, .int) := by decide +kernel
theorem jF_217_61 : j_F 217 61 = some (.aload_n 0, 1, 0, 0, .null, .int) := by decide +kernel
theorem jF_217_62 : j_F 217 62 = some (.aload_n 0, 1, 0, 0, .null, .int) := by decide +kernel
theorem jF_217_63 : j_F 217 63 = some (.getfield 27, 3, 12, 12, .null, (.array .char)) := by decide +kernel
theorem jF_217_66 : j_F 217 66 = some (.invokevirtual 239, 3, 219, 2, .null, .int) := by decide +kernel
theorem jF_217_69 : j_F 217 69 = some (.ifCond .eq 12, 3, 81, 0, .null, .int) := by decide +kernel
theorem jF_217_72 : j_F 217 72 = some (.aload_n 0, 1, 0, 0, .null, .int) := by decide +kernel
theorem jF_217_73 : j_F 217 73 = some (.iconst 2, 1, 0, 0, .null, .int) := by decide +kernel
theorem jF_217_74 : j_F 217 74 = some (.iload_n 1, 1, 0, 0, .null, .int) := by decide +kernel
theorem jF_217_75 : j_F 217 75 = some (.invokevirtual 305, 3, 222, 3, .null, .int) := by decide +kernel
theorem jF_217_78 : j_F 217 78 = some (.goto 133, 3, 211, 0, .null, .int) := by decide +kernel
theorem jF_217_81 : j_F 217 81 = some (.aload_n 0, 1, 0, 0, .null, .int) := by decide +kernel
theorem jF_217_82 : j_F 217 82 = some (.aload_n 0, 1, 0, 0, .null, .int) := by decide +kernel
theorem jF_217_83 : j_F 217 83 = some (.getfield 30, 3, 12, 13, .null, (.array .char)) := by decide +kernel
theorem jF_217_86 : j_F 217 86 = some (.invokevirtual 239, 3, 219, 2, .null, .int) := by decide +kernel
theorem jF_217_89 : j_F 217 89 = some (.ifCond .eq 11, 3, 100, 0, .null, .int) := by decide +kernel
theorem jF_217_92 : j_F 217 92 = some (.aload_n 0, 1, 0, 0, .null, .int) := by decide +kernel
theorem jF_217_93 : j_F 217 93 = some (.iload_n 1, 1, 0, 0, .null, .int) := by decide +kernel
theorem jF_217_94 : j_F 217 94 = some (.invokevirtual 308, 3, 229, 2, .null, .int) := by decide +kernel
theorem jF_217_97 : j_F 217 97 = some (.goto 114, 3, 211, 0, .null, .int) := by decide +kernel
theorem jF_217_100 : j_F 217 100 = some (.aload_n 0, 1, 0, 0, .null, .int) := by decide +kernel
theorem jF_217_101 : j_F 217 101 = some (.aload_n 0, 1, 0, 0, .null, .int) := by decide +kernel
theorem jF_217_102 : j_F 217 102 = some (.getfield 33, 3, 12, 14, .null, (.array .char)) := by decide +kernel
theorem jF_217_105 : j_F 217 105 = some (.invokevirtual 239, 3, 219, 2, .null, .int) := by decide +kernel
theorem jF_217_108 : j_F 217 108 = some (.ifCond .eq 17, 3, 125, 0, .null, .int) := by decide +kernel
theorem jF_217_111 : j_F 217 111 = some (.aload_n 0, 1, 0, 0, .null, .int) := by decide +kernel
theorem jF_217_112 : j_F 217 112 = some (.aload_n 0, 1, 0, 0, .null, .int) := by decide +kernel
theorem jF_217_113 : j_F 217 113 = some (.iconst 1, 1, 0, 0, .null, .int) := by decide +kernel
theorem jF_217_114 : j_F 217 114 = some (.bipush 40, 2, 0, 0, .null, .int) := by decide +kernel
theorem jF_217_116 : j_F 217 116 = some (.invokevirtual 292, 3, 230, 3, .null, .int) := by decide +kernel
theorem jF_217_119 : j_F 217 119 = some (.putfield 312, 3, 12, 37, .null, .int) := by decide +kernel
theorem jF_217_122 : j_F 217 122 = some (.goto 89, 3, 211, 0, .null, .int) := by decide +kernel
theorem jF_217_125 : j_F 217 125 = some (.aload_n 0, 1, 0, 0, .null, .int) := by decide +kernel
theorem jF_217_126 : j_F 217 126 = some (.aload_n 0, 1, 0, 0, .null, .int) := by decide +kernel
theorem jF_217_127 : j_F 217 127 = some (.getfield 36, 3, 12, 15, .null, (.array .char)) := by decide +kernel
theorem jF_217_130 : j_F 217 130 = some (.invokevirtual 239, 3, 219, 2, .null, .int) := by decide +kernel
theorem jF_217_133 : j_F 217 133 = some (.ifCond .eq 11, 3, 144, 0, .null, .int) := by decide +kernel
theorem jF_217_136 : j_F 217 136 = some (.aload_n 0, 1, 0, 0, .null, .int) := by decide +kernel
theorem jF_217_137 : j_F 217 137 = some (.iload_n 1, 1, 0, 0, .null, .int) := by decide +kernel
theorem jF_217_138 : j_F 217 138 = some (.invokevirtual 315, 3, 233, 2, .null, .int) := by decide +kernel
theorem jF_217_141 : j_F 217 141 = some (.goto 70, 3, 211, 0, .null, .int) := by decide +kernel
theorem jF_217_144 : j_F 217 144 = some (.aload_n 0, 1, 0, 0, .null, .int) := by decide +kernel
theorem jF_217_145 : j_F 217 145 = some (.aload_n 0, 1, 0, 0, .null, .int) := by decide +kernel
theorem jF_217_146 : j_F 217 146 = some (.getfield 42, 3, 12, 17, .null, (.array .char)) := by decide +kernel
theorem jF_217_149 : j_F 217 149 = some (.invokevirtual 239, 3, 219, 2, .null, .int) := by decide +kernel
theorem jF_217_152 : j_F 217 152 = some (.ifCond .eq 14, 3, 166, 0, .null, .int) := by decide +kernel
theorem jF_217_155 : j_F 217 155 = some (.aload_n 0, 1, 0, 0, .null, .int) := by decide +kernel
theorem jF_217_156 : j_F 217 156 = some (.iconst 0, 1, 0, 0, .null, .int) := by decide +kernel
theorem jF_217_157 : j_F 217 157 = some (.bipush 16, 2, 0, 0, .null, .int) := by decide +kernel
theorem jF_217_159 : j_F 217 159 = some (.iload_n 1, 1, 0, 0, .null, .int) := by decide +kernel
theorem jF_217_160 : j_F 217 160 = some (.invokevirtual 318, 3, 235, 4, .null, .int) := by decide +kernel
theorem jF_217_163 : j_F 217 163 = some (.goto 48, 3, 211, 0, .null, .int) := by decide +kernel
theorem jF_217_166 : j_F 217 166 = some (.aload_n 0, 1, 0, 0, .null, .int) := by decide +kernel
theorem jF_217_167 : j_F 217 167 = some (.aload_n 0, 1, 0, 0, .null, .int) := by decide +kernel
theorem jF_217_168 : j_F 217 168 = some (.getfield 45, 3, 12, 18, .null, (.array .char)) := by decide +kernel
theorem jF_217_171 : j_F 217 171 = some (.invokevirtual 239, 3, 219, 2, .null, .int) := by decide +kernel
theorem jF_217_174 : j_F 217 174 = some (.ifCond .eq 14, 3, 188, 0, .null, .int) := by decide +kernel
theorem jF_217_177 : j_F 217 177 = some (.aload_n 0, 1, 0, 0, .null, .int) := by decide +kernel
theorem jF_217_178 : j_F 217 178 = some (.iconst 1, 1, 0, 0, .null, .int) := by decide +kernel
theorem jF_217_179 : j_F 217 179 = some (.bipush 8, 2, 0, 0, .null, .int) := by decide +kernel
theorem jF_217_181 : j_F 217 181 = some (.iload_n 1, 1, 0, 0, .null, .int) := by decide +kernel
theorem jF_217_182 : j_F 217 182 = some (.invokevirtual 318, 3, 235, 4, .null, .int) := by decide +kernel
theorem jF_217_185 : j_F 217 185 = some (.goto 26, 3, 211, 0, .null, .int) := by decide +kernel
theorem jF_217_188 : j_F 217 188 = some (.aload_n 0, 1, 0, 0, .null, .int) := by decide +kernel
theorem jF_217_189 : j_F 217 189 = some (.aload_n 0, 1, 0, 0, .null, .int) := by decide +kernel
theorem jF_217_190 : j_F 217 190 = some (.getfield 48, 3, 12, 19, .null, (.array .char)) := by decide +kernel
theorem jF_217_193 : j_F 217 193 = some (.invokevirtual 288, 3, 234, 2, .null, .int) := by decide +kernel
theorem jF_217_196 : j_F 217 196 = some (.aload_n 0, 1, 0, 0, .null, .int) := by decide +kernel
theorem jF_217_197 : j_F 217 197 = some (.getfield 212, 3, 12, 5, .null, .int) := by decide +kernel
theorem jF_217_200 : j_F 217 200 = some (.ifCond .ne 11, 3, 211, 0, .null, .int) := by decide +kernel
theorem jF_217_203 : j_F 217 203 = some (.aload_n 0, 1, 0, 0, .null, .int) := by decide +kernel
theorem jF_217_204 : j_F 217 204 = some (.iconst 2, 1, 0, 0, .null, .int) := by decide +kernel
theorem jF_217_205 : j_F 217 205 = some (.bipush 10, 2, 0, 0, .null, .int) := by decide +kernel
theorem jF_217_207 : j_F 217 207 = some (.iload_n 1, 1, 0, 0, .null, .int) := by decide +kernel
theorem jF_217_208 : j_F 217 208 = some (.invokevirtual 318, 3, 235, 4, .null, .int) := by decide +kernel
theorem jF_217_211 : j_F 217 211 = some (.aload_n 0, 1, 0, 0, .null, .int) := by decide +kernel
theorem jF_217_212 : j_F 217 212 = some (.bipush 59, 2, 0, 0, .null, .int) := by decide +kernel
theorem jF_217_214 : j_F 217 214 = some (.invokevirtual 322, 3, 238, 2, .null, .int) := by decide +kernel
theorem jF_217_217 : j_F 217 217 = some (.aload_n 0, 1, 0, 0, .null, .int) := by decide +kernel
theorem jF_217_218 : j_F 217 218 = some (.dup, 1, 0, 0, .null, .int) := by decide +kernel
theorem jF_217_219 : j_F 217 219 = some (.getfield 302, 3, 12, 39, .null, .int) := by decide +kernel
theorem jF_217_222 : j_F 217 222 = some (.iconst 1, 1, 0, 0, .null, .int) := by decide +kernel
theorem jF_217_223 : j_F 217 223 = some (.iadd, 1, 0, 0, .null, .int) := by decide +kernel
theorem jF_217_224 : j_F 217 224 = some (.putfield 302, 3, 12, 39, .null, .int) := by decide +kernel
theorem jF_217_227 : j_F 217 227 = some (.return_, 1, 0, 0, .null, .int) := by decide +kernel
theorem jF_218_0 : j_F 218 0 = some (.aload_n 0, 1, 0, 0, .null, .int) := by decide +kernel
theorem jF_218_1 : j_F 218 1 = some (.getfield 212, 3, 12, 5, .null, .int) := by decide +kernel
theorem jF_218_4 : j_F 218 4 = some (.ifCond .eq 4, 3, 8, 0, .null, .int) := by decide +kernel
theorem jF_218_7 : j_F 218 7 = some (.return_, 1, 0, 0, .null, .int) := by decide +kernel
theorem jF_218_8 : j_F 218 8 = some (.aload_n 0, 1, 0, 0, .null, .int) := by decide +kernel
theorem jF_218_9 : j_F 218 9 = some (.iload_n 1, 1, 0, 0, .null, .int) := by decide +kernel
theorem jF_218_10 : j_F 218 10 = some (.putfield 212, 3, 12, 5, .null, .int) := by decide +kernel
theorem jF_218_13 : j_F 218 13 = some (.aload_n 0, 1, 0, 0, .null, .int) := by decide +kernel
theorem jF_218_14 : j_F 218 14 = some (.iload_n 2, 1, 0, 0, .null, .int) := by decide +kernel
theorem jF_218_15 : j_F 218 15 = some (.putfield 215, 3, 12, 6, .null, .int) := by decide +kernel
theorem jF_218_18 : j_F 218 18 = some (.return_, 1, 0, 0, .null, .int) := by decide +kernel
theorem jF_219_0 : j_F 219 0 = some (.aload_n 0, 1, 0, 0, .null, .int) := by decide +kernel
theorem jF_219_1 : j_F 219 1 = some (.aload_n 1, 1, 0, 0, .null, .int) := by decide +kernel
theorem jF_219_2 : j_F 219 2 = some (.invokevirtual 235, 3, 220, 2, .null, .int) := by decide +kernel
theorem jF_219_5 : j_F 219 5 = some (.ifCond .ne 5, 3, 10, 0, .null, .int) := by decide +kernel
theorem jF_219_8 : j_F 219 8 = some (.iconst 0, 1, 0, 0, .null, .int) := by decide +kernel
theorem jF_219_9 : j_F 219 9 = some (.ireturn, 1, 0, 0, .null, .boolean) := by decide +kernel
theorem jF_219_10 : j_F 219 10 = some (.aload_n 0, 1, 0, 0, .null, .int) := by decide +kernel
theorem jF_219_11 : j_F 219 11 = some (.dup, 1, 0, 0, .null, .int) := by decide +kernel
theorem jF_219_12 : j_F 219 12 = some (.getfield 218, 3, 12, 2, .null, .int) := by decide +kernel
theorem jF_219_15 : j_F 219 15 = some (.aload_n 1, 1, 0, 0, .null, .int) := by decide +kernel
theorem jF_219_16 : j_F 219 16 = some (.arraylength, 1, 0, 0, .null, .int) := by decide +kernel
theorem jF_219_17 : j_F 219 17 = some (.iadd, 1, 0, 0, .null, .int) := by decide +kernel
theorem jF_219_18 : j_F 219 18 = some (.putfield 218, 3, 12, 2, .null, .int) := by decide +kernel
theorem jF_219_21 : j_F 219 21 = some (.aload_n 0, 1, 0, 0, .null, .int) := by decide +kernel
theorem jF_219_22 : j_F 219 22 = some (.aload_n 0, 1, 0, 0, .null, .int) := by decide +kernel
theorem jF_219_23 : j_F 219 23 = some (.getfield 218, 3, 12, 2, .null, .int) := by decide +kernel
theorem jF_219_26 : j_F 219 26 = some (.putfield 232, 3, 12, 4, .null, .int) := by decide +kernel
theorem jF_219_29 : j_F 219 29 = some (.iconst 1, 1, 0, 0, .null, .int) := by decide +kernel
theorem jF_219_30 : j_F 219 30 = some (.ireturn, 1, 0, 0, .null, .boolean) := by decide +kernel
theorem jF_220_0 : j_F 220 0 = some (.aload_n 0, 1, 0, 0, .null, .int) := by decide +kernel
theorem jF_220_1 : j_F 220 1 = some (.getfield 212, 3, 12, 5, .null, .int) := by decide +kernel
theorem jF_220_4 : j_F 220 4 = some (.ifCond .ne 24, 3, 28, 0, .null, .int) := by decide +kernel
theorem jF_220_7 : j_F 220 7 = some (.aload_n 0, 1, 0, 0, .null, .int) := by decide +kernel
theorem jF_220_8 : j_F 220 8 = some (.invokevirtual 224, 3, 216, 1, .null, .int) := by decide +kernel
theorem jF_220_11 : j_F 220 11 = some (.invokestatic 228, 3, 221, 1, .null, .int) := by decide +kernel
theorem jF_220_14 : j_F 220 14 = some (.ifCond .eq 14, 3, 28, 0, .null, .int) := by decide +kernel
theorem jF_220_17 : j_F 220 17 = some (.aload_n 0, 1, 0, 0, .null, .int) := by decide +kernel
theorem jF_220_18 : j_F 220 18 = some (.getfield 218, 3, 12, 2, .null, .int) := by decide +kernel
theorem jF_220_21 : j_F 220 21 = some (.aload_n 0, 1, 0, 0, .null, .int) := by decide +kernel
theorem jF_220_22 : j_F 220 22 = some (.getfield 232, 3, 12, 4, .null, .int) := by decide +kernel
theorem jF_220_25 : j_F 220 25 = some (.if_icmp .ne 5, 3, 30, 0, .null, .int) := by decide +kernel
theorem jF_220_28 : j_F 220 28 = some (.iconst 0, 1, 0, 0, .null, .int) := by decide +kernel
theorem jF_220_29 : j_F 220 29 = some (.ireturn, 1, 0, 0, .null, .boolean) := by decide +kernel
theorem jF_220_30 : j_F 220 30 = some (.aload_n 0, 1, 0, 0, .null, .int) := by decide +kernel
theorem jF_220_31 : j_F 220 31 = some (.getfield 218, 3, 12, 2, .null, .int) := by decide +kernel
theorem jF_220_34 : j_F 220 34 = some (.istore_n 2, 1, 0, 0, .null, .int) := by decide +kernel
theorem jF_220_35 : j_F 220 35 = some (.iload_n 2, 1, 0, 0, .null, .int) := by decide +kernel
theorem jF_220_36 : j_F 220 36 = some (.aload_n 0, 1, 0, 0, .null, .int) := by decide +kernel
theorem jF_220_37 : j_F 220 37 = some (.getfield 221, 3, 12, 3, .null, .int) := by decide +kernel
theorem jF_220_40 : j_F 220 40 = some (.if_icmp .ge 21, 3, 61, 0, .null, .int) := by decide +kernel
theorem jF_220_43 : j_F 220 43 = some (.aload_n 0, 1, 0, 0, .null, .int) := by decide +kernel
theorem jF_220_44 : j_F 220 44 = some (.getfield 7, 3, 12, 0, .null, (.array .int)) := by decide +kernel
theorem jF_220_47 : j_F 220 47 = some (.iload_n 2, 1, 0, 0, .null, .int) := by decide +kernel
theorem jF_220_48 : j_F 220 48 = some (.iaload, 1, 0, 0, .null, .int) := by decide +kernel
theorem jF_220_49 : j_F 220 49 = some (.invokestatic 228, 3, 221, 1, .null, .int) := by decide +kernel
theorem jF_220_52 : j_F 220 52 = some (.ifCond .eq 9, 3, 61, 0, .null, .int) := by decide +kernel
theorem jF_220_55 : j_F 220 55 = some (.iinc 2 1, 3, 0, 0, .null, .int) := by decide +kernel
theorem jF_220_58 : j_F 220 58 = some (.goto (-23), 3, 35, 0, .null, .int) := by decide +kernel
theorem jF_220_61 : j_F 220 61 = some (.iload_n 2, 1, 0, 0, .null, .int) := by decide +kernel
theorem jF_220_62 : j_F 220 62 = some (.aload_n 0, 1, 0, 0, .null, .int) := by decide +kernel
theorem jF_220_63 : j_F 220 63 = some (.getfield 218, 3, 12, 2, .null, .int) := by decide +kernel
theorem jF_220_66 : j_F 220 66 = some (.isub, 1, 0, 0, .null, .int) := by decide +kernel
theorem jF_220_67 : j_F 220 67 = some (.aload_n 1, 1, 0, 0, .null, .int) := by decide +kernel
theorem jF_220_68 : j_F 220 68 = some (.arraylength, 1, 0, 0, .null, .int) := by decide +kernel
theorem jF_220_69 : j_F 220 69 = some (.if_icmp .eq 5, 3, 74, 0, .null, .int) := by decide +kernel
theorem jF_220_72 : j_F 220 72 = some (.iconst 0, 1, 0, 0, .null, .int) := by decide +kernel
theorem jF_220_73 : j_F 220 73 = some (.ireturn, 1, 0, 0, .null, .boolean) := by decide +kernel
theorem jF_220_74 : j_F 220 74 = some (.iconst 0, 1, 0, 0, .null, .int) := by decide +kernel
theorem jF_220_75 : j_F 220 75 = some (.istore_n 3, 1, 0, 0, .null, .int) := by decide +kernel
theorem jF_220_76 : j_F 220 76 = some (.iload_n 3, 1, 0, 0, .null, .int) := by decide +kernel
theorem jF_220_77 : j_F 220 77 = some (.aload_n 1, 1, 0, 0, .null, .int) := by decide +kernel
theorem jF_220_78 : j_F 220 78 = some (.arraylength, 1, 0, 0, .null, .int) := by decide +kernel
theorem jF_220_79 : j_F 220 79 = some (.if_icmp .ge 28, 3, 107, 0, .null, .int) := by decide +kernel
theorem jF_220_82 : j_F 220 82 = some (.aload_n 0, 1, 0, 0, .null, .int) := by decide +kernel
theorem jF_220_83 : j_F 220 83 = some (.getfield 7, 3, 12, 0, .null, (.array .int)) := by decide +kernel
theorem jF_220_86 : j_F 220 86 = some (.aload_n 0, 1, 0, 0, .null, .int) := by decide +kernel
theorem jF_220_87 : j_F 220 87 = some (.getfield 218, 3, 12, 2, .null, .int) := by decide +kernel
theorem jF_220_90 : j_F 220 90 = some (.iload_n 3, 1, 0, 0, .null, .int) := by decide +kernel
theorem jF_220_91 : j_F 220 91 = some (.iadd, 1, 0, 0, .null, .int) := by decide +kernel
theorem jF_220_92 : j_F 220 92 = some (.iaload, 1, 0, 0, .null, .int) := by decide +kernel
theorem jF_220_93 : j_F 220 93 = some (.aload_n 1, 1, 0, 0, .null, .int) := by decide +kernel
theorem jF_220_94 : j_F 220 94 = some (.iload_n 3, 1, 0, 0, .null, .int) := by decide +kernel
theorem jF_220_95 : j_F 220 95 = some (.caload, 1, 0, 0, .null, .int) := by decide +kernel
theorem jF_220_96 : j_F 220 96 = some (.if_icmp .eq 5, 3, 101, 0, .null, .int) := by decide +kernel
theorem jF_220_99 : j_F 220 99 = some (.iconst 0, 1, 0, 0, .null, .int) := by decide +kernel
theorem jF_220_100 : j_F 220 100 = some (.ireturn, 1, 0, 0, .null, .boolean) := by decide +kernel
theorem jF_220_101 : j_F 220 101 = some (.iinc 3 1, 3, 0, 0, .null, .int) := by decide +kernel
theorem jF_220_104 : j_F 220 104 = some (.goto (-28), 3, 76, 0, .null, .int) := by decide +kernel
theorem jF_220_107 : j_F 220 107 = some (.iconst 1, 1, 0, 0, .null, .int) := by decide +kernel
theorem jF_220_108 : j_F 220 108 = some (.ireturn, 1, 0, 0, .null, .boolean) := by decide +kernel
theorem jF_221_0 : j_F 221 0 = some (.iload_n 0, 1, 0, 0, .null, .int) := by decide +kernel
theorem jF_221_1 : j_F 221 1 = some (.bipush 97, 2, 0, 0, .null, .int) := by decide +kernel
theorem jF_221_3 : j_F 221 3 = some (.if_icmp .lt 13, 3, 16, 0, .null, .int) := by decide +kernel
theorem jF_221_6 : j_F 221 6 = some (.iload_n 0, 1, 0, 0, .null, .int) := by decide +kernel
theorem jF_221_7 : j_F 221 7 = some (.bipush 122, 2, 0, 0, .null, .int) := by decide +kernel
theorem jF_221_9 : j_F 221 9 = some (.if_icmp .gt 7, 3, 16, 0, .null, .int) := by decide +kernel
theorem jF_221_12 : j_F 221 12 = some (.iconst 1, 1, 0, 0, .null, .int) := by decide +kernel
theorem jF_221_13 : j_F 221 13 = some (.goto 4, 3, 17, 0, .null, .int) := by decide +kernel
theorem jF_221_16 : j_F 221 16 = some (.iconst 0, 1, 0, 0, .null, .int) := by decide +kernel
theorem jF_221_17 : j_F 221 17 = some (.ireturn, 1, 0, 0, .null, .boolean) := by decide +kernel
theorem jF_222_0 : j_F 222 0 = some (.aload_n 0, 1, 0, 0, .null, .int) := by decide +kernel
theorem jF_222_1 : j_F 222 1 = some (.iconst 4, 1, 0, 0, .null, .int) := by decide +kernel
theorem jF_222_2 : j_F 222 2 = some (.iload_n 1, 1, 0, 0, .null, .int) := by decide +kernel
theorem jF_222_3 : j_F 222 3 = some (.imul, 1, 0, 0, .null, .int) := by decide +kernel
theorem jF_222_4 : j_F 222 4 = some (.iconst 4, 1, 0, 0, .null, .int) := by decide +kernel
theorem jF_222_5 : j_F 222 5 = some (.invokevirtual 281, 3, 223, 3, .null, .int) := by decide +kernel
theorem jF_222_8 : j_F 222 8 = some (.istore_n 3, 1, 0, 0, .null, .int) := by decide +kernel
theorem jF_222_9 : j_F 222 9 = some (.iload_n 3, 1, 0, 0, .null, .int) := by decide +kernel
theorem jF_222_10 : j_F 222 10 = some (.iconst (-1), 1, 0, 0, .null, .int) := by decide +kernel
theorem jF_222_11 : j_F 222 11 = some (.if_icmp .ne 9, 3, 20, 0, .null, .int) := by decide +kernel
theorem jF_222_14 : j_F 222 14 = some (.aload_n 0, 1, 0, 0, .null, .int) := by decide +kernel
theorem jF_222_15 : j_F 222 15 = some (.iconst 5, 1, 0, 0, .null, .int) := by decide +kernel
theorem jF_222_16 : j_F 222 16 = some (.iload_n 2, 1, 0, 0, .null, .int) := by decide +kernel
theorem jF_222_17 : j_F 222 17 = some (.invokevirtual 242, 3, 218, 3, .null, .int) := by decide +kernel
theorem jF_222_20 : j_F 222 20 = some (.aload_n 0, 1, 0, 0, .null, .int) := by decide +kernel
theorem jF_222_21 : j_F 222 21 = some (.invokevirtual 285, 3, 224, 1, .null, .int) := by decide +kernel
theorem jF_222_24 : j_F 222 24 = some (.lstore 4, 2, 0, 0, .null, .int) := by decide +kernel
theorem jF_222_26 : j_F 222 26 = some (.aload_n 0, 1, 0, 0, .null, .int) := by decide +kernel
theorem jF_222_27 : j_F 222 27 = some (.getfield 212, 3, 12, 5, .null, .int) := by decide +kernel
theorem jF_222_30 : j_F 222 30 = some (.ifCond .ne 11, 3, 41, 0, .null, .int) := by decide +kernel
theorem jF_222_33 : j_F 222 33 = some (.aload_n 0, 1, 0, 0, .null, .int) := by decide +kernel
theorem jF_222_34 : j_F 222 34 = some (.getfield 75, 3, 12, 29, .null, (.array .long)) := by decide +kernel
theorem jF_222_37 : j_F 222 37 = some (.iload_n 3, 1, 0, 0, .null, .int) := by decide +kernel
theorem jF_222_38 : j_F 222 38 = some (.lload 4, 2, 0, 0, .null, .int) := by decide +kernel
theorem jF_222_40 : j_F 222 40 = some (.lastore, 1, 0, 0, .null, .int) := by decide +kernel
theorem jF_222_41 : j_F 222 41 = some (.return_, 1, 0, 0, .null, .int) := by decide +kernel
theorem jF_223_0 : j_F 223 0 = some (.iload_n 1, 1, 0, 0, .null, .int) := by decide +kernel
theorem jF_223_1 : j_F 223 1 = some (.istore_n 3, 1, 0, 0, .null, .int) := by decide +kernel
theorem jF_223_2 : j_F 223 2 = some (.iload_n 3, 1, 0, 0, .null, .int) := by decide +kernel
theorem jF_223_3 : j_F 223 3 = some (.iload_n 1, 1, 0, 0, .null, .int) := by decide +kernel
theorem jF_223_4 : j_F 223 4 = some (.iload_n 2, 1, 0, 0, .null, .int) := by decide +kernel
theorem jF_223_5 : j_F 223 5 = some (.iadd, 1, 0, 0, .null, .int) := by decide +kernel
theorem jF_223_6 : j_F 223 6 = some (.if_icmp .ge 22, 3, 28, 0, .null, .int) := by decide +kernel
theorem jF_223_9 : j_F 223 9 = some (.aload_n 0, 1, 0, 0, .null, .int) := by decide +kernel
theorem jF_223_10 : j_F 223 10 = some (.getfield 75, 3, 12, 29, .null, (.array .long)) := by decide +kernel
theorem jF_223_13 : j_F 223 13 = some (.iload_n 3, 1, 0, 0, .null, .int) := by decide +kernel
theorem jF_223_14 : j_F 223 14 = some (.laload, 1, 0, 0, .null, .int) := by decide +kernel
theorem jF_223_15 : j_F 223 15 = some (.lconst 0, 1, 0, 0, .null, .int) := by decide +kernel
theorem jF_223_16 : j_F 223 16 = some (.lcmp, 1, 0, 0, .null, .int) := by decide +kernel
theorem jF_223_17 : j_F 223 17 = some (.ifCond .ne 5, 3, 22, 0, .null, .int) := by decide +kernel
theorem jF_223_20 : j_F 223 20 = some (.iload_n 3, 1, 0, 0, .null, .int) := by decide +kernel
theorem jF_223_21 : j_F 223 21 = some (.ireturn, 1, 0, 0, .null, .int) := by decide +kernel
theorem jF_223_22 : j_F 223 22 = some (.iinc 3 1, 3, 0, 0, .null, .int) := by decide +kernel
theorem jF_223_25 : j_F 223 25 = some (.goto (-23), 3, 2, 0, .null, .int) := by decide +kernel
theorem jF_223_28 : j_F 223 28 = some (.iconst (-1), 1, 0, 0, .null, .int) := by decide +kernel
theorem jF_223_29 : j_F 223 29 = some (.ireturn, 1, 0, 0, .null, .int) := by decide +kernel
theorem jF_224_0 : j_F 224 0 = some (.aload_n 0, 1, 0, 0, .null, .int) := by decide +kernel
theorem jF_224_1 : j_F 224 1 = some (.invokevirtual 270, 3, 225, 1, .null, .int) := by decide +kernel
theorem jF_224_4 : j_F 224 4 = some (.lstore_n 1, 1, 0, 0, .null, .int) := by decide +kernel
theorem jF_224_5 : j_F 224 5 = some (.aload_n 0, 1, 0, 0, .null, .int) := by decide +kernel
theorem jF_224_6 : j_F 224 6 = some (.getfield 212, 3, 12, 5, .null, .int) := by decide +kernel
theorem jF_224_9 : j_F 224 9 = some (.ifCond .ne 30, 3, 39, 0, .null, .int) := by decide +kernel
theorem jF_224_12 : j_F 224 12 = some (.aload_n 0, 1, 0, 0, .null, .int) := by decide +kernel
theorem jF_224_13 : j_F 224 13 = some (.lload_n 1, 1, 0, 0, .null, .int) := by decide +kernel
theorem jF_224_14 : j_F 224 14 = some (.invokevirtual 274, 3, 227, 2, .null, .int) := by decide +kernel
theorem jF_224_17 : j_F 224 17 = some (.iconst (-1), 1, 0, 0, .null, .int) := by decide +kernel
theorem jF_224_18 : j_F 224 18 = some (.if_icmp .ne 12, 3, 30, 0, .null, .int) := by decide +kernel
theorem jF_224_21 : j_F 224 21 = some (.aload_n 0, 1, 0, 0, .null, .int) := by decide +kernel
theorem jF_224_22 : j_F 224 22 = some (.lload_n 1, 1, 0, 0, .null, .int) := by decide +kernel
theorem jF_224_23 : j_F 224 23 = some (.invokevirtual 278, 3, 228, 2, .null, .int) := by decide +kernel
theorem jF_224_26 : j_F 224 26 = some (.iconst (-1), 1, 0, 0, .null, .int) := by decide +kernel
theorem jF_224_27 : j_F 224 27 = some (.if_icmp .eq 12, 3, 39, 0, .null, .int) := by decide +kernel
theorem jF_224_30 : j_F 224 30 = some (.aload_n 0, 1, 0, 0, .null, .int) := by decide +kernel
theorem jF_224_31 : j_F 224 31 = some (.iconst 3, 1, 0, 0, .null, .int) := by decide +kernel
theorem jF_224_32 : j_F 224 32 = some (.aload_n 0, 1, 0, 0, .null, .int) := by decide +kernel
theorem jF_224_33 : j_F 224 33 = some (.getfield 260, 3, 12, 28, .null, .int) := by decide +kernel
theorem jF_224_36 : j_F 224 36 = some (.invokevirtual 242, 3, 218, 3, .null, .int) := by decide +kernel
theorem jF_224_39 : j_F 224 39 = some (.lload_n 1, 1, 0, 0, .null, .int) := by decide +kernel
theorem jF_224_40 : j_F 224 40 = some (.lreturn, 1, 0, 0, .null, .int) := by decide +kernel
theorem jF_225_0 : j_F 225 0 = some (.aload_n 0, 1, 0, 0, .null, .int) := by decide +kernel
theorem jF_225_1 : j_F 225 1 = some (.getfield 212, 3, 12, 5, .null, .int) := by decide +kernel
theorem jF_225_4 : j_F 225 4 = some (.ifCond .eq 5, 3, 9, 0, .null, .int) := by decide +kernel
theorem jF_225_7 : j_F 225 7 = some (.lconst 0, 1, 0, 0, .null, .int) := by decide +kernel
theorem jF_225_8 : j_F 225 8 = some (.lreturn, 1, 0, 0, .null, .int) := by decide +kernel
theorem jF_225_9 : j_F 225 9 = some (.aload_n 0, 1, 0, 0, .null, .int) := by decide +kernel
theorem jF_225_10 : j_F 225 10 = some (.invokevirtual 224, 3, 216, 1, .null, .int) := by decide +kernel
theorem jF_225_13 : j_F 225 13 = some (.invokestatic 228, 3, 221, 1, .null, .int) := by decide +kernel
theorem jF_225_16 : j_F 225 16 = some (.ifCond .eq 21, 3, 37, 0, .null, .int) := by decide +kernel
theorem jF_225_19 : j_F 225 19 = some (.aload_n 0, 1, 0, 0, .null, .int) := by decide +kernel
theorem jF_225_20 : j_F 225 20 = some (.getfield 218, 3, 12, 2, .null, .int) := by decide +kernel
theorem jF_225_23 : j_F 225 23 = some (.aload_n 0, 1, 0, 0, .null, .int) := by decide +kernel
theorem jF_225_24 : j_F 225 24 = some (.getfield 232, 3, 12, 4, .null, .int) := by decide +kernel
theorem jF_225_27 : j_F 225 27 = some (.if_icmp .eq 10, 3, 37, 0, .null, .int) := by decide +kernel
theorem jF_225_30 : j_F 225 30 = some (.aload_n 0, 1, 0, 0, .null, .int) := by decide +kernel
theorem jF_225_31 : j_F 225 31 = some (.invokevirtual 256, 3, 226, 1, .null, .int) := by decide +kernel
theorem jF_225_34 : j_F 225 34 = some (.ifCond .eq 14, 3, 48, 0, .null, .int) := by decide +kernel
theorem jF_225_37 : j_F 225 37 = some (.aload_n 0, 1, 0, 0, .null, .int) := by decide +kernel
theorem jF_225_38 : j_F 225 38 = some (.iconst 1, 1, 0, 0, .null, .int) := by decide +kernel
theorem jF_225_39 : j_F 225 39 = some (.aload_n 0, 1, 0, 0, .null, .int) := by decide +kernel
theorem jF_225_40 : j_F 225 40 = some (.getfield 218, 3, 12, 2, .null, .int) := by decide +kernel
theorem jF_225_43 : j_F 225 43 = some (.invokevirtual 242, 3, 218, 3, .null, .int) := by decide +kernel
theorem jF_225_46 : j_F 225 46 = some (.lconst 0, 1, 0, 0, .null, .int) := by decide +kernel
theorem jF_225_47 : j_F 225 47 = some (.lreturn, 1, 0, 0, .null, .int) := by decide +kernel
theorem jF_225_48 : j_F 225 48 = some (.aload_n 0, 1, 0, 0, .null, .int) := by decide +kernel
theorem jF_225_49 : j_F 225 49 = some (.aload_n 0, 1, 0, 0, .null, .int) := by decide +kernel
theorem jF_225_50 : j_F 225 50 = some (.getfield 218, 3, 12, 2, .null, .int) := by decide +kernel
theorem jF_225_53 : j_F 225 53 = some (.putfield 260, 3, 12, 28, .null, .int) := by decide +kernel
theorem jF_225_56 : j_F 225 56 = some (.lconst 0, 1, 0, 0, .null, .int) := by decide +kernel
theorem jF_225_57 : j_F 225 57 = some (.lstore_n 1, 1, 0, 0, .null, .int) := by decide +kernel
theorem jF_225_58 : j_F 225 58 = some (.aload_n 0, 1, 0, 0, .null, .int) := by decide +kernel
theorem jF_225_59 : j_F 225 59 = some (.getfield 218, 3, 12, 2, .null, .int) := by decide +kernel
theorem jF_225_62 : j_F 225 62 = some (.aload_n 0, 1, 0, 0, .null, .int) := by decide +kernel
theorem jF_225_63 : j_F 225 63 = some (.getfield 221, 3, 12, 3, .null, .int) := by decide +kernel
theorem jF_225_66 : j_F 225 66 = some (.if_icmp .ge 79, 3, 145, 0, .null, .int) := by decide +kernel
theorem jF_225_69 : j_F 225 69 = some (.aload_n 0, 1, 0, 0, .null, .int) := by decide +kernel
theorem jF_225_70 : j_F 225 70 = some (.getfield 7, 3, 12, 0, .null, (.array .int)) := by decide +kernel
theorem jF_225_73 : j_F 225 73 = some (.aload_n 0, 1, 0, 0, .null, .int) := by decide +kernel
theorem jF_225_74 : j_F 225 74 = some (.getfield 218, 3, 12, 2, .null, .int) := by decide +kernel
theorem jF_225_77 : j_F 225 77 = some (.iaload, 1, 0, 0, .null, .int) := by decide +kernel
theorem jF_225_78 : j_F 225 78 = some (.invokestatic 228, 3, 221, 1, .null, .int) := by decide +kernel
theorem jF_225_81 : j_F 225 81 = some (.ifCond .eq 64, 3, 145, 0, .null, .int) := by decide +kernel
theorem jF_225_84 : j_F 225 84 = some (.aload_n 0, 1, 0, 0, .null, .int) := by decide +kernel
theorem jF_225_85 : j_F 225 85 = some (.getfield 218, 3, 12, 2, .null, .int) := by decide +kernel
theorem jF_225_88 : j_F 225 88 = some (.aload_n 0, 1, 0, 0, .null, .int) := by decide +kernel
theorem jF_225_89 : j_F 225 89 = some (.getfield 260, 3, 12, 28, .null, .int) := by decide +kernel
theorem jF_225_92 : j_F 225 92 = some (.isub, 1, 0, 0, .null, .int) := by decide +kernel
theorem jF_225_93 : j_F 225 93 = some (.bipush 6, 2, 0, 0, .null, .int) := by decide +kernel
theorem jF_225_95 : j_F 225 95 = some (.if_icmp .ne 14, 3, 109, 0, .null, .int) := by decide +kernel
theorem jF_225_98 : j_F 225 98 = some (.aload_n 0, 1, 0, 0, .null, .int) := by decide +kernel
theorem jF_225_99 : j_F 225 99 = some (.iconst 1, 1, 0, 0, .null, .int) := by decide +kernel
theorem jF_225_100 : j_F 225 100 = some (.aload_n 0, 1, 0, 0, .null, .int) := by decide +kernel
theorem jF_225_101 : j_F 225 101 = some (.getfield 218, 3, 12, 2, .null, .int) := by decide +kernel
theorem jF_225_104 : j_F 225 104 = some (.invokevirtual 242, 3, 218, 3, .null, .int) := by decide +kernel
theorem jF_225_107 : j_F 225 107 = some (.lconst 0, 1, 0, 0, .null, .int) := by decide +kernel
theorem jF_225_108 : j_F 225 108 = some (.lreturn, 1, 0, 0, .null, .int) := by decide +kernel
theorem jF_225_109 : j_F 225 109 = some (.ldc2_w 263, 3, 0, 0, (.long (27)), .int) := by decide +kernel
theorem jF_225_112 : j_F 225 112 = some (.lload_n 1, 1, 0, 0, .null, .int) := by decide +kernel
theorem jF_225_113 : j_F 225 113 = some (.lmul, 1, 0, 0, .null, .int) := by decide +kernel
theorem jF_225_114 : j_F 225 114 = some (.aload_n 0, 1, 0, 0, .null, .int) := by decide +kernel
theorem jF_225_115 : j_F 225 115 = some (.getfield 7, 3, 12, 0, .null, (.array .int)) := by decide +kernel
theorem jF_225_118 : j_F 225 118 = some (.aload_n 0, 1, 0, 0, .null, .int) := by decide +kernel
theorem jF_225_119 : j_F 225 119 = some (.getfield 218, 3, 12, 2, .null, .int) := by decide +kernel
theorem jF_225_122 : j_F 225 122 = some (.iaload, 1, 0, 0, .null, .int) := by decide +kernel
theorem jF_225_123 : j_F 225 123 = some (.i2l, 1, 0, 0, .null, .int) := by decide +kernel
theorem jF_225_124 : j_F 225 124 = some (.ladd, 1, 0, 0, .null, .int) := by decide +kernel
theorem jF_225_125 : j_F 225 125 = some (.ldc2_w 265, 3, 0, 0, (.long (97)), .int) := by decide +kernel
theorem jF_225_128 : j_F 225 128 = some (.lsub, 1, 0, 0, .null, .int) := by decide +kernel
theorem jF_225_129 : j_F 225 129 = some (.lconst 1, 1, 0, 0, .null, .int) := by decide +kernel
theorem jF_225_130 : j_F 225 130 = some (.ladd, 1, 0, 0, .null, .int) := by decide +kernel
theorem jF_225_131 : j_F 225 131 = some (.lstore_n 1, 1, 0, 0, .null, .int) := by decide +kernel
theorem jF_225_132 : j_F 225 132 = some (.aload_n 0, 1, 0, 0, .null, .int) := by decide +kernel
theorem jF_225_133 : j_F 225 133 = some (.dup, 1, 0, 0, .null, .int) := by decide +kernel
theorem jF_225_134 : j_F 225 134 = some (.getfield 218, 3, 12, 2, .null, .int) := by decide +kernel
theorem jF_225_137 : j_F 225 137 = some (.iconst 1, 1, 0, 0, .null, .int) := by decide +kernel
theorem jF_225_138 : j_F 225 138 = some (.iadd, 1, 0, 0, .null, .int) := by decide +kernel
theorem jF_225_139 : j_F 225 139 = some (.putfield 218, 3, 12, 2, .null, .int) := by decide +kernel
theorem jF_225_142 : j_F 225 142 = some (.goto (-84), 3, 58, 0, .null, .int) := by decide +kernel
theorem jF_225_145 : j_F 225 145 = some (.aload_n 0, 1, 0, 0, .null, .int) := by decide +kernel
theorem jF_225_146 : j_F 225 146 = some (.aload_n 0, 1, 0, 0, .null, .int) := by decide +kernel
theorem jF_225_147 : j_F 225 147 = some (.getfield 218, 3, 12, 2, .null, .int) := by decide +kernel
theorem jF_225_150 : j_F 225 150 = some (.putfield 232, 3, 12, 4, .null, .int) := by decide +kernel
theorem jF_225_153 : j_F 225 153 = some (.lload_n 1, 1, 0, 0, .null, .int) := by decide +kernel
theorem jF_225_154 : j_F 225 154 = some (.lreturn, 1, 0, 0, .null, .int) := by decide +kernel
theorem jF_226_0 : j_F 226 0 = some (.aload_n 0, 1, 0, 0, .null, .int) := by decide +kernel
theorem jF_226_1 : j_F 226 1 = some (.aload_n 0, 1, 0, 0, .null, .int) := by decide +kernel
theorem jF_226_2 : j_F 226 2 = some (.getfield 20, 3, 12, 10, .null, (.array .char)) := by decide +kernel
theorem jF_226_5 : j_F 226 5 = some (.invokevirtual 235, 3, 220, 2, .null, .int) := by decide +kernel
theorem jF_226_8 : j_F 226 8 = some (.ifCond .ne 58, 3, 66, 0, .null, .int) := by decide +kernel
theorem jF_226_11 : j_F 226 11 = some (.aload_n 0, 1, 0, 0, .null, .int) := by decide +kernel
theorem jF_226_12 : j_F 226 12 = some (.aload_n 0, 1, 0, 0, .null, .int) := by decide +kernel
theorem jF_226_13 : j_F 226 13 = some (.getfield 24, 3, 12, 11, .null, (.array .char)) := by decide +kernel
theorem jF_226_16 : j_F 226 16 = some (.invokevirtual 235, 3, 220, 2, .null, .int) := by decide +kernel
theorem jF_226_19 : j_F 226 19 = some (.ifCond .ne 47, 3, 66, 0, .null, .int) := by decide +kernel
theorem jF_226_22 : j_F 226 22 = some (.aload_n 0, 1, 0, 0, .null, .int) := by decide +kernel
theorem jF_226_23 : j_F 226 23 = some (.aload_n 0, 1, 0, 0, .null, .int) := by decide +kernel
theorem jF_226_24 : j_F 226 24 = some (.getfield 27, 3, 12, 12, .null, (.array .char)) := by decide +kernel
theorem jF_226_27 : j_F 226 27 = some (.invokevirtual 235, 3, 220, 2, .null, .int) := by decide +kernel
theorem jF_226_30 : j_F 226 30 = some (.ifCond .ne 36, 3, 66, 0, .null, .int) := by decide +kernel
theorem jF_226_33 : j_F 226 33 = some (.aload_n 0, 1, 0, 0, .null, .int) := by decide +kernel
theorem jF_226_34 : j_F 226 34 = some (.aload_n 0, 1, 0, 0, .null, .int) := by decide +kernel
theorem jF_226_35 : j_F 226 35 = some (.getfield 30, 3, 12, 13, .null, (.array .char)) := by decide +kernel
theorem jF_226_38 : j_F 226 38 = some (.invokevirtual 235, 3, 220, 2, .null, .int) := by decide +kernel
theorem jF_226_41 : j_F 226 41 = some (.ifCond .ne 25, 3, 66, 0, .null, .int) := by decide +kernel
theorem jF_226_44 : j_F 226 44 = some (.aload_n 0, 1, 0, 0, .null, .int) := by decide +kernel
theorem jF_226_45 : j_F 226 45 = some (.aload_n 0, 1, 0, 0, .null, .int) := by decide +kernel
theorem jF_226_46 : j_F 226 46 = some (.getfield 33, 3, 12, 14, .null, (.array .char)) := by decide +kernel
theorem jF_226_49 : j_F 226 49 = some (.invokevirtual 235, 3, 220, 2, .null, .int) := by decide +kernel
theorem jF_226_52 : j_F 226 52 = some (.ifCond .ne 14, 3, 66, 0, .null, .int) := by decide +kernel
theorem jF_226_55 : j_F 226 55 = some (.aload_n 0, 1, 0, 0, .null, .int) := by decide +kernel
theorem jF_226_56 : j_F 226 56 = some (.aload_n 0, 1, 0, 0, .null, .int) := by decide +kernel
theorem jF_226_57 : j_F 226 57 = some (.getfield 36, 3, 12, 15, .null, (.array .char)) := by decide +kernel
theorem jF_226_60 : j_F 226 60 = some (.invokevirtual 235, 3, 220, 2, .null, .int) := by decide +kernel
theorem jF_226_63 : j_F 226 63 = some (.ifCond .eq 7, 3, 70, 0, .null, .int) := by decide +kernel
theorem jF_226_66 : j_F 226 66 = some (.iconst 1, 1, 0, 0, .null, .int) := by decide +kernel
theorem jF_226_67 : j_F 226 67 = some (.goto 4, 3, 71, 0, .null, .int) := by decide +kernel
theorem jF_226_70 : j_F 226 70 = some (.iconst 0, 1, 0, 0, .null, .int) := by decide +kernel
theorem jF_226_71 : j_F 226 71 = some (.istore_n 1, 1, 0, 0, .null, .int) := by decide +kernel
theorem jF_226_72 : j_F 226 72 = some (.iload_n 1, 1, 0, 0, .null, .int) := by decide +kernel
theorem jF_226_73 : j_F 226 73 = some (.ifCond .ne 69, 3, 142, 0, .null, .int) := by decide +kernel
theorem jF_226_76 : j_F 226 76 = some (.aload_n 0, 1, 0, 0, .null, .int) := by decide +kernel
theorem jF_226_77 : j_F 226 77 = some (.aload_n 0, 1, 0, 0, .null, .int) := by decide +kernel
theorem jF_226_78 : j_F 226 78 = some (.getfield 39, 3, 12, 16, .null, (.array .char)) := by decide +kernel
theorem jF_226_81 : j_F 226 81 = some (.invokevirtual 235, 3, 220, 2, .null, .int) := by decide +kernel
theorem jF_226_84 : j_F 226 84 = some (.ifCond .ne 58, 3, 142, 0, .null, .int) := by decide +kernel
theorem jF_226_87 : j_F 226 87 = some (.aload_n 0, 1, 0, 0, .null, .int) := by decide +kernel
theorem jF_226_88 : j_F 226 88 = some (.aload_n 0, 1, 0, 0, .null, .int) := by decide +kernel
theorem jF_226_89 : j_F 226 89 = some (.getfield 42, 3, 12, 17, .null, (.array .char)) := by decide +kernel
theorem jF_226_92 : j_F 226 92 = some (.invokevirtual 235, 3, 220, 2, .null, .int) := by decide +kernel
theorem jF_226_95 : j_F 226 95 = some (.ifCond .ne 47, 3, 142, 0, .null, .int) := by decide +kernel
theorem jF_226_98 : j_F 226 98 = some (.aload_n 0, 1, 0, 0, .null, .int) := by decide +kernel
theorem jF_226_99 : j_F 226 99 = some (.aload_n 0, 1, 0, 0, .null, .int) := by decide +kernel
theorem jF_226_100 : j_F 226 100 = some (.getfield 45, 3, 12, 18, .null, (.array .char)) := by decide +kernel
theorem jF_226_103 : j_F 226 103 = some (.invokevirtual 235, 3, 220, 2, .null, .int) := by decide +kernel
theorem jF_226_106 : j_F 226 106 = some (.ifCond .ne 36, 3, 142, 0, .null, .int) := by decide +kernel
theorem jF_226_109 : j_F 226 109 = some (.aload_n 0, 1, 0, 0, .null, .int) := by decide +kernel
theorem jF_226_110 : j_F 226 110 = some (.aload_n 0, 1, 0, 0, .null, .int) := by decide +kernel
theorem jF_226_111 : j_F 226 111 = some (.getfield 48, 3, 12, 19, .null, (.array .char)) := by decide +kernel
theorem jF_226_114 : j_F 226 114 = some (.invokevirtual 235, 3, 220, 2, .null, .int) := by decide +kernel
theorem jF_226_117 : j_F 226 117 = some (.ifCond .ne 25, 3, 142, 0, .null, .int) := by decide +kernel
theorem jF_226_120 : j_F 226 120 = some (.aload_n 0, 1, 0, 0, .null, .int) := by decide +kernel
theorem jF_226_121 : j_F 226 121 = some (.aload_n 0, 1, 0, 0, .null, .int) := by decide +kernel
theorem jF_226_122 : j_F 226 122 = some (.getfield 51, 3, 12, 20, .null, (.array .char)) := by decide +kernel
theorem jF_226_125 : j_F 226 125 = some (.invokevirtual 235, 3, 220, 2, .null, .int) := by decide +kernel
theorem jF_226_128 : j_F 226 128 = some (.ifCond .ne 14, 3, 142, 0, .null, .int) := by decide +kernel
theorem jF_226_131 : j_F 226 131 = some (.aload_n 0, 1, 0, 0, .null, .int) := by decide +kernel
theorem jF_226_132 : j_F 226 132 = some (.aload_n 0, 1, 0, 0, .null, .int) := by decide +kernel
theorem jF_226_133 : j_F 226 133 = some (.getfield 54, 3, 12, 21, .null, (.array .char)) := by decide +kernel
theorem jF_226_136 : j_F 226 136 = some (.invokevirtual 235, 3, 220, 2, .null, .int) := by decide +kernel
theorem jF_226_139 : j_F 226 139 = some (.ifCond .eq 7, 3, 146, 0, .null, .int) := by decide +kernel
theorem jF_226_142 : j_F 226 142 = some (.iconst 1, 1, 0, 0, .null, .int) := by decide +kernel
theorem jF_226_143 : j_F 226 143 = some (.goto 4, 3, 147, 0, .null, .int) := by decide +kernel
theorem jF_226_146 : j_F 226 146 = some (.iconst 0, 1, 0, 0, .null, .int) := by decide +kernel
theorem jF_226_147 : j_F 226 147 = some (.istore_n 1, 1, 0, 0, .null, .int) := by decide +kernel
theorem jF_226_148 : j_F 226 148 = some (.iload_n 1, 1, 0, 0, .null, .int) := by decide +kernel
theorem jF_226_149 : j_F 226 149 = some (.ifCond .ne 69, 3, 218, 0, .null, .int) := by decide +kernel
theorem jF_226_152 : j_F 226 152 = some (.aload_n 0, 1, 0, 0, .null, .int) := by decide +kernel
theorem jF_226_153 : j_F 226 153 = some (.aload_n 0, 1, 0, 0, .null, .int) := by decide +kernel
theorem jF_226_154 : j_F 226 154 = some (.getfield 57, 3, 12, 22, .null, (.array .char)) := by decide +kernel
theorem jF_226_157 : j_F 226 157 = some (.invokevirtual 235, 3, 220, 2, .null, .int) := by decide +kernel
theorem jF_226_160 : j_F 226 160 = some (.ifCond .ne 58, 3, 218, 0, .null, .int) := by decide +kernel
theorem jF_226_163 : j_F 226 163 = some (.aload_n 0, 1, 0, 0, .null, .int) := by decide +kernel
theorem jF_226_164 : j_F 226 164 = some (.aload_n 0, 1, 0, 0, .null, .int) := by decide +kernel
theorem jF_226_165 : j_F 226 165 = some (.getfield 60, 3, 12, 23, .null, (.array .char)) := by decide +kernel
theorem jF_226_168 : j_F 226 168 = some (.invokevirtual 235, 3, 220, 2, .null, .int) := by decide +kernel
theorem jF_226_171 : j_F 226 171 = some (.ifCond .ne 47, 3, 218, 0, .null, .int) := by decide +kernel
theorem jF_226_174 : j_F 226 174 = some (.aload_n 0, 1, 0, 0, .null, .int) := by decide +kernel
theorem jF_226_175 : j_F 226 175 = some (.aload_n 0, 1, 0, 0, .null, .int) := by decide +kernel
theorem jF_226_176 : j_F 226 176 = some (.getfield 63, 3, 12, 24, .null, (.array .char)) := by decide +kernel
theorem jF_226_179 : j_F 226 179 = some (.invokevirtual 235, 3, 220, 2, .null, .int) := by decide +kernel
theorem jF_226_182 : j_F 226 182 = some (.ifCond .ne 36, 3, 218, 0, .null, .int) := by decide +kernel
theorem jF_226_185 : j_F 226 185 = some (.aload_n 0, 1, 0, 0, .null, .int) := by decide +kernel
theorem jF_226_186 : j_F 226 186 = some (.aload_n 0, 1, 0, 0, .null, .int) := by decide +kernel
theorem jF_226_187 : j_F 226 187 = some (.getfield 66, 3, 12, 25, .null, (.array .char)) := by decide +kernel
theorem jF_226_190 : j_F 226 190 = some (.invokevirtual 235, 3, 220, 2, .null, .int) := by decide +kernel
theorem jF_226_193 : j_F 226 193 = some (.ifCond .ne 25, 3, 218, 0, .null, .int) := by decide +kernel
theorem jF_226_196 : j_F 226 196 = some (.aload_n 0, 1, 0, 0, .null, .int) := by decide +kernel
theorem jF_226_197 : j_F 226 197 = some (.aload_n 0, 1, 0, 0, .null, .int) := by decide +kernel
theorem jF_226_198 : j_F 226 198 = some (.getfield 69, 3, 12, 26, .null, (.array .char)) := by decide +kernel
theorem jF_226_201 : j_F 226 201 = some (.invokevirtual 235, 3, 220, 2, .null, .int) := by decide +kernel
theorem jF_226_204 : j_F 226 204 = some (.ifCond .ne 14, 3, 218, 0, .null, .int) := by decide +kernel
theorem jF_226_207 : j_F 226 207 = some (.aload_n 0, 1, 0, 0, .null, .int) := by decide +kernel
theorem jF_226_208 : j_F 226 208 = some (.aload_n 0, 1, 0, 0, .null, .int) := by decide +kernel
theorem jF_226_209 : j_F 226 209 = some (.getfield 72, 3, 12, 27, .null, (.array .char)) := by decide +kernel
theorem jF_226_212 : j_F 226 212 = some (.invokevirtual 235, 3, 220, 2, .null, .int) := by decide +kernel
theorem jF_226_215 : j_F 226 215 = some (.ifCond .eq 7, 3, 222, 0, .null, .int) := by decide +kernel
theorem jF_226_218 : j_F 226 218 = some (.iconst 1, 1, 0, 0, .null, .int) := by decide +kernel
theorem jF_226_219 : j_F 226 219 = some (.goto 4, 3, 223, 0, .null, .int) := by decide +kernel
theorem jF_226_222 : j_F 226 222 = some (.iconst 0, 1, 0, 0, .null, .int) := by decide +kernel
theorem jF_226_223 : j_F 226 223 = some (.istore_n 1, 1, 0, 0, .null, .int) := by decide +kernel
theorem jF_226_224 : j_F 226 224 = some (.iload_n 1, 1, 0, 0, .null, .int) := by decide +kernel
theorem jF_226_225 : j_F 226 225 = some (.ireturn, 1, 0, 0, .null, .boolean) := by decide +kernel
theorem jF_227_0 : j_F 227 0 = some (.iconst 0, 1, 0, 0, .null, .int) := by decide +kernel
theorem jF_227_1 : j_F 227 1 = some (.istore_n 3, 1, 0, 0, .null, .int) := by decide +kernel
theorem jF_227_2 : j_F 227 2 = some (.iload_n 3, 1, 0, 0, .null, .int) := by decide +kernel
theorem jF_227_3 : j_F 227 3 = some (.bipush 18, 2, 0, 0, .null, .int) := by decide +kernel
theorem jF_227_5 : j_F 227 5 = some (.if_icmp .ge 28, 3, 33, 0, .null, .int) := by decide +kernel
theorem jF_227_8 : j_F 227 8 = some (.lload_n 1, 1, 0, 0, .null, .int) := by decide +kernel
theorem jF_227_9 : j_F 227 9 = some (.lconst 0, 1, 0, 0, .null, .int) := by decide +kernel
theorem jF_227_10 : j_F 227 10 = some (.lcmp, 1, 0, 0, .null, .int) := by decide +kernel
theorem jF_227_11 : j_F 227 11 = some (.ifCond .eq 16, 3, 27, 0, .null, .int) := by decide +kernel
theorem jF_227_14 : j_F 227 14 = some (.aload_n 0, 1, 0, 0, .null, .int) := by decide +kernel
theorem jF_227_15 : j_F 227 15 = some (.getfield 75, 3, 12, 29, .null, (.array .long)) := by decide +kernel
theorem jF_227_18 : j_F 227 18 = some (.iload_n 3, 1, 0, 0, .null, .int) := by decide +kernel
theorem jF_227_19 : j_F 227 19 = some (.laload, 1, 0, 0, .null, .int) := by decide +kernel
theorem jF_227_20 : j_F 227 20 = some (.lload_n 1, 1, 0, 0, .null, .int) := by decide +kernel
theorem jF_227_21 : j_F 227 21 = some (.lcmp, 1, 0, 0, .null, .int) := by decide +kernel
theorem jF_227_22 : j_F 227 22 = some (.ifCond .ne 5, 3, 27, 0, .null, .int) := by decide +kernel
theorem jF_227_25 : j_F 227 25 = some (.iload_n 3, 1, 0, 0, .null, .int) := by decide +kernel
theorem jF_227_26 : j_F 227 26 = some (.ireturn, 1, 0, 0, .null, .int) := by decide +kernel
theorem jF_227_27 : j_F 227 27 = some (.iinc 3 1, 3, 0, 0, .null, .int) := by decide +kernel
theorem jF_227_30 : j_F 227 30 = some (.goto (-28), 3, 2, 0, .null, .int) := by decide +kernel
theorem jF_227_33 : j_F 227 33 = some (.iconst (-1), 1, 0, 0, .null, .int) := by decide +kernel
theorem jF_227_34 : j_F 227 34 = some (.ireturn, 1, 0, 0, .null, .int) := by decide +kernel
theorem jF_228_0 : j_F 228 0 = some (.iconst 0, 1, 0, 0, .null, .int) := by decide +kernel
theorem jF_228_1 : j_F 228 1 = some (.istore_n 3, 1, 0, 0, .null, .int) := by decide +kernel
theorem jF_228_2 : j_F 228 2 = some (.iload_n 3, 1, 0, 0, .null, .int) := by decide +kernel
theorem jF_228_3 : j_F 228 3 = some (.aload_n 0, 1, 0, 0, .null, .int) := by decide +kernel
theorem jF_228_4 : j_F 228 4 = some (.getfield 267, 3, 12, 33, .null, .int) := by decide +kernel
theorem jF_228_7 : j_F 228 7 = some (.if_icmp .ge 22, 3, 29, 0, .null, .int) := by decide +kernel
theorem jF_228_10 : j_F 228 10 = some (.aload_n 0, 1, 0, 0, .null, .int) := by decide +kernel
theorem jF_228_11 : j_F 228 11 = some (.getfield 82, 3, 12, 31, .null, (.array .long)) := by decide +kernel
theorem jF_228_14 : j_F 228 14 = some (.iload_n 3, 1, 0, 0, .null, .int) := by decide +kernel
theorem jF_228_15 : j_F 228 15 = some (.laload, 1, 0, 0, .null, .int) := by decide +kernel
theorem jF_228_16 : j_F 228 16 = some (.lload_n 1, 1, 0, 0, .null, .int) := by decide +kernel
theorem jF_228_17 : j_F 228 17 = some (.lcmp, 1, 0, 0, .null, .int) := by decide +kernel
theorem jF_228_18 : j_F 228 18 = some (.ifCond .ne 5, 3, 23, 0, .null, .int) := by decide +kernel
theorem jF_228_21 : j_F 228 21 = some (.iload_n 3, 1, 0, 0, .null, .int) := by decide +kernel
theorem jF_228_22 : j_F 228 22 = some (.ireturn, 1, 0, 0, .null, .int) := by decide +kernel
theorem jF_228_23 : j_F 228 23 = some (.iinc 3 1, 3, 0, 0, .null, .int) := by decide +kernel
theorem jF_228_26 : j_F 228 26 = some (.goto (-24), 3, 2, 0, .null, .int) := by decide +kernel
theorem jF_228_29 : j_F 228 29 = some (.iconst (-1), 1, 0, 0, .null, .int) := by decide +kernel
theorem jF_228_30 : j_F 228 30 = some (.ireturn, 1, 0, 0, .null, .int) := by decide +kernel
theorem jF_229_0 : j_F 229 0 = some (.aload_n 0, 1, 0, 0, .null, .int) := by decide +kernel
theorem jF_229_1 : j_F 229 1 = some (.bipush 12, 2, 0, 0, .null, .int) := by decide +kernel
theorem jF_229_3 : j_F 229 3 = some (.bipush 6, 2, 0, 0, .null, .int) := by decide +kernel
theorem jF_229_5 : j_F 229 5 = some (.invokevirtual 281, 3, 223, 3, .null, .int) := by decide +kernel
theorem jF_229_8 : j_F 229 8 = some (.istore_n 2, 1, 0, 0, .null, .int) := by decide +kernel
theorem jF_229_9 : j_F 229 9 = some (.iload_n 2, 1, 0, 0, .null, .int) := by decide +kernel
theorem jF_229_10 : j_F 229 10 = some (.iconst (-1), 1, 0, 0, .null, .int) := by decide +kernel
theorem jF_229_11 : j_F 229 11 = some (.if_icmp .ne 9, 3, 20, 0, .null, .int) := by decide +kernel
theorem jF_229_14 : j_F 229 14 = some (.aload_n 0, 1, 0, 0, .null, .int) := by decide +kernel
theorem jF_229_15 : j_F 229 15 = some (.iconst 5, 1, 0, 0, .null, .int) := by decide +kernel
theorem jF_229_16 : j_F 229 16 = some (.iload_n 1, 1, 0, 0, .null, .int) := by decide +kernel
theorem jF_229_17 : j_F 229 17 = some (.invokevirtual 242, 3, 218, 3, .null, .int) := by decide +kernel
theorem jF_229_20 : j_F 229 20 = some (.aload_n 0, 1, 0, 0, .null, .int) := by decide +kernel
theorem jF_229_21 : j_F 229 21 = some (.invokevirtual 285, 3, 224, 1, .null, .int) := by decide +kernel
theorem jF_229_24 : j_F 229 24 = some (.lstore_n 3, 1, 0, 0, .null, .int) := by decide +kernel
theorem jF_229_25 : j_F 229 25 = some (.aload_n 0, 1, 0, 0, .null, .int) := by decide +kernel
theorem jF_229_26 : j_F 229 26 = some (.invokevirtual 270, 3, 225, 1, .null, .int) := by decide +kernel
theorem jF_229_29 : j_F 229 29 = some (.lstore 5, 2, 0, 0, .null, .int) := by decide +kernel
theorem jF_229_31 : j_F 229 31 = some (.aload_n 0, 1, 0, 0, .null, .int) := by decide +kernel
theorem jF_229_32 : j_F 229 32 = some (.lload 5, 2, 0, 0, .null, .int) := by decide +kernel
theorem jF_229_34 : j_F 229 34 = some (.invokevirtual 274, 3, 227, 2, .null, .int) := by decide +kernel
theorem jF_229_37 : j_F 229 37 = some (.istore 7, 2, 0, 0, .null, .int) := by decide +kernel
theorem jF_229_39 : j_F 229 39 = some (.aload_n 0, 1, 0, 0, .null, .int) := by decide +kernel
theorem jF_229_40 : j_F 229 40 = some (.getfield 212, 3, 12, 5, .null, .int) := by decide +kernel
theorem jF_229_43 : j_F 229 43 = some (.ifCond .ne 18, 3, 61, 0, .null, .int) := by decide +kernel
theorem jF_229_46 : j_F 229 46 = some (.iload 7, 2, 0, 0, .null, .int) := by decide +kernel
theorem jF_229_48 : j_F 229 48 = some (.iconst (-1), 1, 0, 0, .null, .int) := by decide +kernel
theorem jF_229_49 : j_F 229 49 = some (.if_icmp .ne 12, 3, 61, 0, .null, .int) := by decide +kernel
theorem jF_229_52 : j_F 229 52 = some (.aload_n 0, 1, 0, 0, .null, .int) := by decide +kernel
theorem jF_229_53 : j_F 229 53 = some (.iconst 3, 1, 0, 0, .null, .int) := by decide +kernel
theorem jF_229_54 : j_F 229 54 = some (.aload_n 0, 1, 0, 0, .null, .int) := by decide +kernel
theorem jF_229_55 : j_F 229 55 = some (.getfield 260, 3, 12, 28, .null, .int) := by decide +kernel
theorem jF_229_58 : j_F 229 58 = some (.invokevirtual 242, 3, 218, 3, .null, .int) := by decide +kernel
theorem jF_229_61 : j_F 229 61 = some (.aload_n 0, 1, 0, 0, .null, .int) := by decide +kernel
theorem jF_229_62 : j_F 229 62 = some (.getfield 212, 3, 12, 5, .null, .int) := by decide +kernel
theorem jF_229_65 : j_F 229 65 = some (.ifCond .eq 4, 3, 69, 0, .null, .int) := by decide +kernel
theorem jF_229_68 : j_F 229 68 = some (.return_, 1, 0, 0, .null, .int) := by decide +kernel
theorem jF_229_69 : j_F 229 69 = some (.aload_n 0, 1, 0, 0, .null, .int) := by decide +kernel
theorem jF_229_70 : j_F 229 70 = some (.getfield 79, 3, 12, 30, .null, (.array .int)) := by decide +kernel
theorem jF_229_73 : j_F 229 73 = some (.iload_n 2, 1, 0, 0, .null, .int) := by decide +kernel
theorem jF_229_74 : j_F 229 74 = some (.bipush 12, 2, 0, 0, .null, .int) := by decide +kernel
theorem jF_229_76 : j_F 229 76 = some (.isub, 1, 0, 0, .null, .int) := by decide +kernel
theorem jF_229_77 : j_F 229 77 = some (.iload 7, 2, 0, 0, .null, .int) := by decide +kernel
theorem jF_229_79 : j_F 229 79 = some (.bipush 12, 2, 0, 0, .null, .int) := by decide +kernel
theorem jF_229_81 : j_F 229 81 = some (.if_icmp .ge 8, 3, 89, 0, .null, .int) := by decide +kernel
theorem jF_229_84 : j_F 229 84 = some (.iload 7, 2, 0, 0, .null, .int) := by decide +kernel
theorem jF_229_86 : j_F 229 86 = some (.goto 13, 3, 99, 0, .null, .int) := by decide +kernel
theorem jF_229_89 : j_F 229 89 = some (.aload_n 0, 1, 0, 0, .null, .int) := by decide +kernel
theorem jF_229_90 : j_F 229 90 = some (.getfield 79, 3, 12, 30, .null, (.array .int)) := by decide +kernel
theorem jF_229_93 : j_F 229 93 = some (.iload 7, 2, 0, 0, .null, .int) := by decide +kernel
theorem jF_229_95 : j_F 229 95 = some (.bipush 12, 2, 0, 0, .null, .int) := by decide +kernel
theorem jF_229_97 : j_F 229 97 = some (.isub, 1, 0, 0, .null, .int) := by decide +kernel
theorem jF_229_98 : j_F 229 98 = some (.iaload, 1, 0, 0, .null, .int) := by decide +kernel
theorem jF_229_99 : j_F 229 99 = some (.iastore, 1, 0, 0, .null, .int) := by decide +kernel
theorem jF_229_100 : j_F 229 100 = some (.aload_n 0, 1, 0, 0, .null, .int) := by decide +kernel
theorem jF_229_101 : j_F 229 101 = some (.getfield 75, 3, 12, 29, .null, (.array .long)) := by decide +kernel
theorem jF_229_104 : j_F 229 104 = some (.iload_n 2, 1, 0, 0, .null, .int) := by decide +kernel
theorem jF_229_105 : j_F 229 105 = some (.lload_n 3, 1, 0, 0, .null, .int) := by decide +kernel
theorem jF_229_106 : j_F 229 106 = some (.lastore, 1, 0, 0, .null, .int) := by decide +kernel
theorem jF_229_107 : j_F 229 107 = some (.return_, 1, 0, 0, .null, .int) := by decide +kernel
theorem jF_230_0 : j_F 230 0 = some (.aload_n 0, 1, 0, 0, .null, .int) := by decide +kernel
theorem jF_230_1 : j_F 230 1 = some (.getfield 212, 3, 12, 5, .null, .int) := by decide +kernel
theorem jF_230_4 : j_F 230 4 = some (.ifCond .eq 5, 3, 9, 0, .null, .int) := by decide +kernel
theorem jF_230_7 : j_F 230 7 = some (.iconst 0, 1, 0, 0, .null, .int) := by decide +kernel
theorem jF_230_8 : j_F 230 8 = some (.ireturn, 1, 0, 0, .null, .int) := by decide +kernel
theorem jF_230_9 : j_F 230 9 = some (.aload_n 0, 1, 0, 0, .null, .int) := by decide +kernel
theorem jF_230_10 : j_F 230 10 = some (.invokevirtual 224, 3, 216, 1, .null, .int) := by decide +kernel
theorem jF_230_13 : j_F 230 13 = some (.invokestatic 249, 3, 231, 1, .null, .int) := by decide +kernel
theorem jF_230_16 : j_F 230 16 = some (.ifCond .eq 14, 3, 30, 0, .null, .int) := by decide +kernel
theorem jF_230_19 : j_F 230 19 = some (.aload_n 0, 1, 0, 0, .null, .int) := by decide +kernel
theorem jF_230_20 : j_F 230 20 = some (.getfield 218, 3, 12, 2, .null, .int) := by decide +kernel
theorem jF_230_23 : j_F 230 23 = some (.aload_n 0, 1, 0, 0, .null, .int) := by decide +kernel
theorem jF_230_24 : j_F 230 24 = some (.getfield 232, 3, 12, 4, .null, .int) := by decide +kernel
theorem jF_230_27 : j_F 230 27 = some (.if_icmp .ne 14, 3, 41, 0, .null, .int) := by decide +kernel
theorem jF_230_30 : j_F 230 30 = some (.aload_n 0, 1, 0, 0, .null, .int) := by decide +kernel
theorem jF_230_31 : j_F 230 31 = some (.iconst 1, 1, 0, 0, .null, .int) := by decide +kernel
theorem jF_230_32 : j_F 230 32 = some (.aload_n 0, 1, 0, 0, .null, .int) := by decide +kernel
theorem jF_230_33 : j_F 230 33 = some (.getfield 218, 3, 12, 2, .null, .int) := by decide +kernel
theorem jF_230_36 : j_F 230 36 = some (.invokevirtual 242, 3, 218, 3, .null, .int) := by decide +kernel
theorem jF_230_39 : j_F 230 39 = some (.iconst 0, 1, 0, 0, .null, .int) := by decide +kernel
theorem jF_230_40 : j_F 230 40 = some (.ireturn, 1, 0, 0, .null, .int) := by decide +kernel
theorem jF_230_41 : j_F 230 41 = some (.aload_n 0, 1, 0, 0, .null, .int) := by decide +kernel
theorem jF_230_42 : j_F 230 42 = some (.getfield 218, 3, 12, 2, .null, .int) := by decide +kernel
theorem jF_230_45 : j_F 230 45 = some (.istore_n 3, 1, 0, 0, .null, .int) := by decide +kernel
theorem jF_230_46 : j_F 230 46 = some (.iconst 0, 1, 0, 0, .null, .int) := by decide +kernel
theorem jF_230_47 : j_F 230 47 = some (.istore 4, 2, 0, 0, .null, .int) := by decide +kernel
theorem jF_230_49 : j_F 230 49 = some (.aload_n 0, 1, 0, 0, .null, .int) := by decide +kernel
theorem jF_230_50 : j_F 230 50 = some (.getfield 218, 3, 12, 2, .null, .int) := by decide +kernel
theorem jF_230_53 : j_F 230 53 = some (.aload_n 0, 1, 0, 0, .null, .int) := by decide +kernel
theorem jF_230_54 : j_F 230 54 = some (.getfield 221, 3, 12, 3, .null, .int) := by decide +kernel
theorem jF_230_57 : j_F 230 57 = some (.if_icmp .ge 72, 3, 129, 0, .null, .int) := by decide +kernel
theorem jF_230_60 : j_F 230 60 = some (.aload_n 0, 1, 0, 0, .null, .int) := by decide +kernel
theorem jF_230_61 : j_F 230 61 = some (.getfield 7, 3, 12, 0, .null, (.array .int)) := by decide +kernel
theorem jF_230_64 : j_F 230 64 = some (.aload_n 0, 1, 0, 0, .null, .int) := by decide +kernel
theorem jF_230_65 : j_F 230 65 = some (.getfield 218, 3, 12, 2, .null, .int) := by decide +kernel
theorem jF_230_68 : j_F 230 68 = some (.iaload, 1, 0, 0, .null, .int) := by decide +kernel
theorem jF_230_69 : j_F 230 69 = some (.invokestatic 249, 3, 231, 1, .null, .int) := by decide +kernel
theorem jF_230_72 : j_F 230 72 = some (.ifCond .eq 57, 3, 129, 0, .null, .int) := by decide +kernel
theorem jF_230_75 : j_F 230 75 = some (.aload_n 0, 1, 0, 0, .null, .int) := by decide +kernel
theorem jF_230_76 : j_F 230 76 = some (.getfield 218, 3, 12, 2, .null, .int) := by decide +kernel
theorem jF_230_79 : j_F 230 79 = some (.iload_n 3, 1, 0, 0, .null, .int) := by decide +kernel
theorem jF_230_80 : j_F 230 80 = some (.isub, 1, 0, 0, .null, .int) := by decide +kernel
theorem jF_230_81 : j_F 230 81 = some (.iconst 4, 1, 0, 0, .null, .int) := by decide +kernel
theorem jF_230_82 : j_F 230 82 = some (.if_icmp .ne 14, 3, 96, 0, .null, .int) := by decide +kernel
theorem jF_230_85 : j_F 230 85 = some (.aload_n 0, 1, 0, 0, .null, .int) := by decide +kernel
theorem jF_230_86 : j_F 230 86 = some (.iconst 1, 1, 0, 0, .null, .int) := by decide +kernel
theorem jF_230_87 : j_F 230 87 = some (.aload_n 0, 1, 0, 0, .null, .int) := by decide +kernel
theorem jF_230_88 : j_F 230 88 = some (.getfield 218, 3, 12, 2, .null, .int) := by decide +kernel
theorem jF_230_91 : j_F 230 91 = some (.invokevirtual 242, 3, 218, 3, .null, .int) := by decide +kernel
theorem jF_230_94 : j_F 230 94 = some (.iconst 0, 1, 0, 0, .null, .int) := by decide +kernel
theorem jF_230_95 : j_F 230 95 = some (.ireturn, 1, 0, 0, .null, .int) := by decide +kernel
theorem jF_230_96 : j_F 230 96 = some (.bipush 10, 2, 0, 0, .null, .int) := by decide +kernel
theorem jF_230_98 : j_F 230 98 = some (.iload 4, 2, 0, 0, .null, .int) := by decide +kernel
theorem jF_230_100 : j_F 230 100 = some (.imul, 1, 0, 0, .null, .int) := by decide +kernel
theorem jF_230_101 : j_F 230 101 = some (.aload_n 0, 1, 0, 0, .null, .int) := by decide +kernel
theorem jF_230_102 : j_F 230 102 = some (.getfield 7, 3, 12, 0, .null, (.array .int)) := by decide +kernel
theorem jF_230_105 : j_F 230 105 = some (.aload_n 0, 1, 0, 0, .null, .int) := by decide +kernel
theorem jF_230_106 : j_F 230 106 = some (.getfield 218, 3, 12, 2, .null, .int) := by decide +kernel
theorem jF_230_109 : j_F 230 109 = some (.iaload, 1, 0, 0, .null, .int) := by decide +kernel
theorem jF_230_110 : j_F 230 110 = some (.iadd, 1, 0, 0, .null, .int) := by decide +kernel
theorem jF_230_111 : j_F 230 111 = some (.bipush 48, 2, 0, 0, .null, .int) := by decide +kernel
theorem jF_230_113 : j_F 230 113 = some (.isub, 1, 0, 0, .null, .int) := by decide +kernel
theorem jF_230_114 : j_F 230 114 = some (.istore 4, 2, 0, 0, .null, .int) := by decide +kernel
theorem jF_230_116 : j_F 230 116 = some (.aload_n 0, 1, 0, 0, .null, .int) := by decide +kernel
theorem jF_230_117 : j_F 230 117 = some (.dup, 1, 0, 0, .null, .int) := by decide +kernel
theorem jF_230_118 : j_F 230 118 = some (.getfield 218, 3, 12, 2, .null, .int) := by decide +kernel
theorem jF_230_121 : j_F 230 121 = some (.iconst 1, 1, 0, 0, .null, .int) := by decide +kernel
theorem jF_230_122 : j_F 230 122 = some (.iadd, 1, 0, 0, .null, .int) := by decide +kernel
theorem jF_230_123 : j_F 230 123 = some (.putfield 218, 3, 12, 2, .null, .int) := by decide +kernel
theorem jF_230_126 : j_F 230 126 = some (.goto (-77), 3, 49, 0, .null, .int) := by decide +kernel
theorem jF_230_129 : j_F 230 129 = some (.aload_n 0, 1, 0, 0, .null, .int) := by decide +kernel
theorem jF_230_130 : j_F 230 130 = some (.aload_n 0, 1, 0, 0, .null, .int) := by decide +kernel
theorem jF_230_131 : j_F 230 131 = some (.getfield 218, 3, 12, 2, .null, .int) := by decide +kernel
theorem jF_230_134 : j_F 230 134 = some (.putfield 232, 3, 12, 4, .null, .int) := by decide +kernel
theorem jF_230_137 : j_F 230 137 = some (.iload 4, 2, 0, 0, .null, .int) := by decide +kernel
theorem jF_230_139 : j_F 230 139 = some (.i2l, 1, 0, 0, .null, .int) := by decide +kernel
theorem jF_230_140 : j_F 230 140 = some (.iload_n 1, 1, 0, 0, .null, .int) := by decide +kernel
theorem jF_230_141 : j_F 230 141 = some (.i2l, 1, 0, 0, .null, .int) := by decide +kernel
theorem jF_230_142 : j_F 230 142 = some (.iload_n 2, 1, 0, 0, .null, .int) := by decide +kernel
theorem jF_230_143 : j_F 230 143 = some (.i2l, 1, 0, 0, .null, .int) := by decide +kernel
theorem jF_230_144 : j_F 230 144 = some (.invokestatic 252, 3, 232, 3, .null, .int) := by decide +kernel
theorem jF_230_147 : j_F 230 147 = some (.ifCond .ne 9, 3, 156, 0, .null, .int) := by decide +kernel
theorem jF_230_150 : j_F 230 150 = some (.aload_n 0, 1, 0, 0, .null, .int) := by decide +kernel
theorem jF_230_151 : j_F 230 151 = some (.iconst 2, 1, 0, 0, .null, .int) := by decide +kernel
theorem jF_230_152 : j_F 230 152 = some (.iload_n 3, 1, 0, 0, .null, .int) := by decide +kernel
theorem jF_230_153 : j_F 230 153 = some (.invokevirtual 242, 3, 218, 3, .null, .int) := by decide +kernel
theorem jF_230_156 : j_F 230 156 = some (.iload 4, 2, 0, 0, .null, .int) := by decide +kernel
theorem jF_230_158 : j_F 230 158 = some (.ireturn, 1, 0, 0, .null, .int) := by decide +kernel
theorem jF_231_0 : j_F 231 0 = some (.iload_n 0, 1, 0, 0, .null, .int) := by decide +kernel
theorem jF_231_1 : j_F 231 1 = some (.bipush 48, 2, 0, 0, .null, .int) := by decide +kernel
theorem jF_231_3 : j_F 231 3 = some (.if_icmp .lt 13, 3, 16, 0, .null, .int) := by decide +kernel
theorem jF_231_6 : j_F 231 6 = some (.iload_n 0, 1, 0, 0, .null, .int) := by decide +kernel
theorem jF_231_7 : j_F 231 7 = some (.bipush 57, 2, 0, 0, .null, .int) := by decide +kernel
theorem jF_231_9 : j_F 231 9 = some (.if_icmp .gt 7, 3, 16, 0, .null, .int) := by decide +kernel
theorem jF_231_12 : j_F 231 12 = some (.iconst 1, 1, 0, 0, .null, .int) := by decide +kernel
theorem jF_231_13 : j_F 231 13 = some (.goto 4, 3, 17, 0, .null, .int) := by decide +kernel
theorem jF_231_16 : j_F 231 16 = some (.iconst 0, 1, 0, 0, .null, .int) := by decide +kernel
theorem jF_231_17 : j_F 231 17 = some (.ireturn, 1, 0, 0, .null, .boolean) := by decide +kernel
theorem jF_232_0 : j_F 232 0 = some (.lload_n 0, 1, 0, 0, .null, .int) := by decide +kernel
theorem jF_232_1 : j_F 232 1 = some (.lload_n 2, 1, 0, 0, .null, .int) := by decide +kernel
theorem jF_232_2 : j_F 232 2 = some (.lcmp, 1, 0, 0, .null, .int) := by decide +kernel
theorem jF_232_3 : j_F 232 3 = some (.ifCond .lt 14, 3, 17, 0, .null, .int) := by decide +kernel
theorem jF_232_6 : j_F 232 6 = some (.lload_n 0, 1, 0, 0, .null, .int) := by decide +kernel
theorem jF_232_7 : j_F 232 7 = some (.lload 4, 2, 0, 0, .null, .int) := by decide +kernel
theorem jF_232_9 : j_F 232 9 = some (.lcmp, 1, 0, 0, .null, .int) := by decide +kernel
theorem jF_232_10 : j_F 232 10 = some (.ifCond .gt 7, 3, 17, 0, .null, .int) := by decide +kernel
theorem jF_232_13 : j_F 232 13 = some (.iconst 1, 1, 0, 0, .null, .int) := by decide +kernel
theorem jF_232_14 : j_F 232 14 = some (.goto 4, 3, 18, 0, .null, .int) := by decide +kernel
theorem jF_232_17 : j_F 232 17 = some (.iconst 0, 1, 0, 0, .null, .int) := by decide +kernel
theorem jF_232_18 : j_F 232 18 = some (.ireturn, 1, 0, 0, .null, .boolean) := by decide +kernel
theorem jF_233_0 : j_F 233 0 = some (.aload_n 0, 1, 0, 0, .null, .int) := by decide +kernel
theorem jF_233_1 : j_F 233 1 = some (.getfield 212, 3, 12, 5, .null, .int) := by decide +kernel
theorem jF_233_4 : j_F 233 4 = some (.ifCond .ne 17, 3, 21, 0, .null, .int) := by decide +kernel
theorem jF_233_7 : j_F 233 7 = some (.aload_n 0, 1, 0, 0, .null, .int) := by decide +kernel
theorem jF_233_8 : j_F 233 8 = some (.getfield 267, 3, 12, 33, .null, .int) := by decide +kernel
theorem jF_233_11 : j_F 233 11 = some (.iconst 5, 1, 0, 0, .null, .int) := by decide +kernel
theorem jF_233_12 : j_F 233 12 = some (.if_icmp .ne 9, 3, 21, 0, .null, .int) := by decide +kernel
theorem jF_233_15 : j_F 233 15 = some (.aload_n 0, 1, 0, 0, .null, .int) := by decide +kernel
theorem jF_233_16 : j_F 233 16 = some (.iconst 5, 1, 0, 0, .null, .int) := by decide +kernel
theorem jF_233_17 : j_F 233 17 = some (.iload_n 1, 1, 0, 0, .null, .int) := by decide +kernel
theorem jF_233_18 : j_F 233 18 = some (.invokevirtual 242, 3, 218, 3, .null, .int) := by decide +kernel
theorem jF_233_21 : j_F 233 21 = some (.aload_n 0, 1, 0, 0, .null, .int) := by decide +kernel
theorem jF_233_22 : j_F 233 22 = some (.invokevirtual 285, 3, 224, 1, .null, .int) := by decide +kernel
theorem jF_233_25 : j_F 233 25 = some (.lstore_n 2, 1, 0, 0, .null, .int) := by decide +kernel
theorem jF_233_26 : j_F 233 26 = some (.aload_n 0, 1, 0, 0, .null, .int) := by decide +kernel
theorem jF_233_27 : j_F 233 27 = some (.aload_n 0, 1, 0, 0, .null, .int) := by decide +kernel
theorem jF_233_28 : j_F 233 28 = some (.getfield 39, 3, 12, 16, .null, (.array .char)) := by decide +kernel
theorem jF_233_31 : j_F 233 31 = some (.invokevirtual 288, 3, 234, 2, .null, .int) := by decide +kernel
theorem jF_233_34 : j_F 233 34 = some (.aload_n 0, 1, 0, 0, .null, .int) := by decide +kernel
theorem jF_233_35 : j_F 233 35 = some (.iconst 1, 1, 0, 0, .null, .int) := by decide +kernel
theorem jF_233_36 : j_F 233 36 = some (.bipush 9, 2, 0, 0, .null, .int) := by decide +kernel
theorem jF_233_38 : j_F 233 38 = some (.invokevirtual 292, 3, 230, 3, .null, .int) := by decide +kernel
theorem jF_233_41 : j_F 233 41 = some (.istore 4, 2, 0, 0, .null, .int) := by decide +kernel
theorem jF_233_43 : j_F 233 43 = some (.aload_n 0, 1, 0, 0, .null, .int) := by decide +kernel
theorem jF_233_44 : j_F 233 44 = some (.getfield 212, 3, 12, 5, .null, .int) := by decide +kernel
theorem jF_233_47 : j_F 233 47 = some (.ifCond .eq 4, 3, 51, 0, .null, .int) := by decide +kernel
theorem jF_233_50 : j_F 233 50 = some (.return_, 1, 0, 0, .null, .int) := by decide +kernel
theorem jF_233_51 : j_F 233 51 = some (.aload_n 0, 1, 0, 0, .null, .int) := by decide +kernel
theorem jF_233_52 : j_F 233 52 = some (.getfield 82, 3, 12, 31, .null, (.array .long)) := by decide +kernel
theorem jF_233_55 : j_F 233 55 = some (.aload_n 0, 1, 0, 0, .null, .int) := by decide +kernel
theorem jF_233_56 : j_F 233 56 = some (.getfield 267, 3, 12, 33, .null, .int) := by decide +kernel
theorem jF_233_59 : j_F 233 59 = some (.lload_n 2, 1, 0, 0, .null, .int) := by decide +kernel
theorem jF_233_60 : j_F 233 60 = some (.lastore, 1, 0, 0, .null, .int) := by decide +kernel
theorem jF_233_61 : j_F 233 61 = some (.aload_n 0, 1, 0, 0, .null, .int) := by decide +kernel
theorem jF_233_62 : j_F 233 62 = some (.getfield 85, 3, 12, 32, .null, (.array .int)) := by decide +kernel
theorem jF_233_65 : j_F 233 65 = some (.aload_n 0, 1, 0, 0, .null, .int) := by decide +kernel
theorem jF_233_66 : j_F 233 66 = some (.getfield 267, 3, 12, 33, .null, .int) := by decide +kernel
theorem jF_233_69 : j_F 233 69 = some (.iload 4, 2, 0, 0, .null, .int) := by decide +kernel
theorem jF_233_71 : j_F 233 71 = some (.iastore, 1, 0, 0, .null, .int) := by decide +kernel
theorem jF_233_72 : j_F 233 72 = some (.aload_n 0, 1, 0, 0, .null, .int) := by decide +kernel
theorem jF_233_73 : j_F 233 73 = some (.dup, 1, 0, 0, .null, .int) := by decide +kernel
theorem jF_233_74 : j_F 233 74 = some (.getfield 267, 3, 12, 33, .null, .int) := by decide +kernel
theorem jF_233_77 : j_F 233 77 = some (.iconst 1, 1, 0, 0, .null, .int) := by decide +kernel
theorem jF_233_78 : j_F 233 78 = some (.iadd, 1, 0, 0, .null, .int) := by decide +kernel
theorem jF_233_79 : j_F 233 79 = some (.putfield 267, 3, 12, 33, .null, .int) := by decide +kernel
theorem jF_233_82 : j_F 233 82 = some (.return_, 1, 0, 0, .null, .int) := by decide +kernel
theorem jF_234_0 : j_F 234 0 = some (.aload_n 0, 1, 0, 0, .null, .int) := by decide +kernel
theorem jF_234_1 : j_F 234 1 = some (.getfield 212, 3, 12, 5, .null, .int) := by decide +kernel
theorem jF_234_4 : j_F 234 4 = some (.ifCond .ne 20, 3, 24, 0, .null, .int) := by decide +kernel
theorem jF_234_7 : j_F 234 7 = some (.aload_n 0, 1, 0, 0, .null, .int) := by decide +kernel
theorem jF_234_8 : j_F 234 8 = some (.aload_n 1, 1, 0, 0, .null, .int) := by decide +kernel
theorem jF_234_9 : j_F 234 9 = some (.invokevirtual 239, 3, 219, 2, .null, .int) := by decide +kernel
theorem jF_234_12 : j_F 234 12 = some (.ifCond .ne 12, 3, 24, 0, .null, .int) := by decide +kernel
theorem jF_234_15 : j_F 234 15 = some (.aload_n 0, 1, 0, 0, .null, .int) := by decide +kernel
theorem jF_234_16 : j_F 234 16 = some (.iconst 1, 1, 0, 0, .null, .int) := by decide +kernel
theorem jF_234_17 : j_F 234 17 = some (.aload_n 0, 1, 0, 0, .null, .int) := by decide +kernel
theorem jF_234_18 : j_F 234 18 = some (.getfield 218, 3, 12, 2, .null, .int) := by decide +kernel
theorem jF_234_21 : j_F 234 21 = some (.invokevirtual 242, 3, 218, 3, .null, .int) := by decide +kernel
theorem jF_234_24 : j_F 234 24 = some (.return_, 1, 0, 0, .null, .int) := by decide +kernel
theorem jF_235_0 : j_F 235 0 = some (.aload_n 0, 1, 0, 0, .null, .int) := by decide +kernel
theorem jF_235_1 : j_F 235 1 = some (.getfield 212, 3, 12, 5, .null, .int) := by decide +kernel
theorem jF_235_4 : j_F 235 4 = some (.ifCond .ne 19, 3, 23, 0, .null, .int) := by decide +kernel
theorem jF_235_7 : j_F 235 7 = some (.aload_n 0, 1, 0, 0, .null, .int) := by decide +kernel
theorem jF_235_8 : j_F 235 8 = some (.getfield 91, 3, 12, 36, .null, (.array .int)) := by decide +kernel
theorem jF_235_11 : j_F 235 11 = some (.iload_n 1, 1, 0, 0, .null, .int) := by decide +kernel
theorem jF_235_12 : j_F 235 12 = some (.iaload, 1, 0, 0, .null, .int) := by decide +kernel
theorem jF_235_13 : j_F 235 13 = some (.iload_n 2, 1, 0, 0, .null, .int) := by decide +kernel
theorem jF_235_14 : j_F 235 14 = some (.if_icmp .ne 9, 3, 23, 0, .null, .int) := by decide +kernel
theorem jF_235_17 : j_F 235 17 = some (.aload_n 0, 1, 0, 0, .null, .int) := by decide +kernel
theorem jF_235_18 : j_F 235 18 = some (.iconst 5, 1, 0, 0, .null, .int) := by decide +kernel
theorem jF_235_19 : j_F 235 19 = some (.iload_n 3, 1, 0, 0, .null, .int) := by decide +kernel
theorem jF_235_20 : j_F 235 20 = some (.invokevirtual 242, 3, 218, 3, .null, .int) := by decide +kernel
theorem jF_235_23 : j_F 235 23 = some (.iload_n 1, 1, 0, 0, .null, .int) := by decide +kernel
theorem jF_235_24 : j_F 235 24 = some (.invokestatic 295, 3, 236, 1, .null, .int) := by decide +kernel
theorem jF_235_27 : j_F 235 27 = some (.bipush 6, 2, 0, 0, .null, .int) := by decide +kernel
theorem jF_235_29 : j_F 235 29 = some (.aload_n 0, 1, 0, 0, .null, .int) := by decide +kernel
theorem jF_235_30 : j_F 235 30 = some (.getfield 91, 3, 12, 36, .null, (.array .int)) := by decide +kernel
theorem jF_235_33 : j_F 235 33 = some (.iload_n 1, 1, 0, 0, .null, .int) := by decide +kernel
theorem jF_235_34 : j_F 235 34 = some (.iaload, 1, 0, 0, .null, .int) := by decide +kernel
theorem jF_235_35 : j_F 235 35 = some (.imul, 1, 0, 0, .null, .int) := by decide +kernel
theorem jF_235_36 : j_F 235 36 = some (.iadd, 1, 0, 0, .null, .int) := by decide +kernel
theorem jF_235_37 : j_F 235 37 = some (.istore 4, 2, 0, 0, .null, .int) := by decide +kernel
theorem jF_235_39 : j_F 235 39 = some (.iconst (-1), 1, 0, 0, .null, .int) := by decide +kernel
theorem jF_235_40 : j_F 235 40 = some (.istore 5, 2, 0, 0, .null, .int) := by decide +kernel
theorem jF_235_42 : j_F 235 42 = some (.iload_n 1, 1, 0, 0, .null, .int) := by decide +kernel
theorem jF_235_43 : j_F 235 43 = some (.ifCond .ne 39, 3, 82, 0, .null, .int) := by decide +kernel
theorem jF_235_46 : j_F 235 46 = some (.aload_n 0, 1, 0, 0, .null, .int) := by decide +kernel
theorem jF_235_47 : j_F 235 47 = some (.invokevirtual 270, 3, 225, 1, .null, .int) := by decide +kernel
theorem jF_235_50 : j_F 235 50 = some (.lstore 6, 2, 0, 0, .null, .int) := by decide +kernel
theorem jF_235_52 : j_F 235 52 = some (.aload_n 0, 1, 0, 0, .null, .int) := by decide +kernel
theorem jF_235_53 : j_F 235 53 = some (.lload 6, 2, 0, 0, .null, .int) := by decide +kernel
theorem jF_235_55 : j_F 235 55 = some (.invokevirtual 278, 3, 228, 2, .null, .int) := by decide +kernel
theorem jF_235_58 : j_F 235 58 = some (.istore 5, 2, 0, 0, .null, .int) := by decide +kernel
theorem jF_235_60 : j_F 235 60 = some (.aload_n 0, 1, 0, 0, .null, .int) := by decide +kernel
theorem jF_235_61 : j_F 235 61 = some (.getfield 212, 3, 12, 5, .null, .int) := by decide +kernel
theorem jF_235_64 : j_F 235 64 = some (.ifCond .ne 18, 3, 82, 0, .null, .int) := by decide +kernel
theorem jF_235_67 : j_F 235 67 = some (.iload 5, 2, 0, 0, .null, .int) := by decide +kernel
theorem jF_235_69 : j_F 235 69 = some (.iconst (-1), 1, 0, 0, .null, .int) := by decide +kernel
theorem jF_235_70 : j_F 235 70 = some (.if_icmp .ne 12, 3, 82, 0, .null, .int) := by decide +kernel
theorem jF_235_73 : j_F 235 73 = some (.aload_n 0, 1, 0, 0, .null, .int) := by decide +kernel
theorem jF_235_74 : j_F 235 74 = some (.iconst 3, 1, 0, 0, .null, .int) := by decide +kernel
theorem jF_235_75 : j_F 235 75 = some (.aload_n 0, 1, 0, 0, .null, .int) := by decide +kernel
theorem jF_235_76 : j_F 235 76 = some (.getfield 260, 3, 12, 28, .null, .int) := by decide +kernel
theorem jF_235_79 : j_F 235 79 = some (.invokevirtual 242, 3, 218, 3, .null, .int) := by decide +kernel
theorem jF_235_82 : j_F 235 82 = some (.aload_n 0, 1, 0, 0, .null, .int) := by decide +kernel
theorem jF_235_83 : j_F 235 83 = some (.aload_n 0, 1, 0, 0, .null, .int) := by decide +kernel
theorem jF_235_84 : j_F 235 84 = some (.getfield 51, 3, 12, 20, .null, (.array .char)) := by decide +kernel
theorem jF_235_87 : j_F 235 87 = some (.invokevirtual 239, 3, 219, 2, .null, .int) := by decide +kernel
theorem jF_235_90 : j_F 235 90 = some (.istore 6, 2, 0, 0, .null, .int) := by decide +kernel
theorem jF_235_92 : j_F 235 92 = some (.iload 6, 2, 0, 0, .null, .int) := by decide +kernel
theorem jF_235_94 : j_F 235 94 = some (.ifCond .ne 11, 3, 105, 0, .null, .int) := by decide +kernel
theorem jF_235_97 : j_F 235 97 = some (.aload_n 0, 1, 0, 0, .null, .int) := by decide +kernel
theorem jF_235_98 : j_F 235 98 = some (.aload_n 0, 1, 0, 0, .null, .int) := by decide +kernel
theorem jF_235_99 : j_F 235 99 = some (.getfield 54, 3, 12, 21, .null, (.array .char)) := by decide +kernel
theorem jF_235_102 : j_F 235 102 = some (.invokevirtual 288, 3, 234, 2, .null, .int) := by decide +kernel
theorem jF_235_105 : j_F 235 105 = some (.aload_n 0, 1, 0, 0, .null, .int) := by decide +kernel
theorem jF_235_106 : j_F 235 106 = some (.iconst 0, 1, 0, 0, .null, .int) := by decide +kernel
theorem jF_235_107 : j_F 235 107 = some (.invokevirtual 299, 3, 237, 2, .null, .int) := by decide +kernel
theorem jF_235_110 : j_F 235 110 = some (.istore 7, 2, 0, 0, .null, .int) := by decide +kernel
theorem jF_235_112 : j_F 235 112 = some (.aload_n 0, 1, 0, 0, .null, .int) := by decide +kernel
theorem jF_235_113 : j_F 235 113 = some (.iconst 1, 1, 0, 0, .null, .int) := by decide +kernel
theorem jF_235_114 : j_F 235 114 = some (.invokevirtual 299, 3, 237, 2, .null, .int) := by decide +kernel
theorem jF_235_117 : j_F 235 117 = some (.istore 8, 2, 0, 0, .null, .int) := by decide +kernel
theorem jF_235_119 : j_F 235 119 = some (.aload_n 0, 1, 0, 0, .null, .int) := by decide +kernel
theorem jF_235_120 : j_F 235 120 = some (.iconst 2, 1, 0, 0, .null, .int) := by decide +kernel
theorem jF_235_121 : j_F 235 121 = some (.invokevirtual 299, 3, 237, 2, .null, .int) := by decide +kernel
theorem jF_235_124 : j_F 235 124 = some (.istore 9, 2, 0, 0, .null, .int) := by decide +kernel
theorem jF_235_126 : j_F 235 126 = some (.iconst 0, 1, 0, 0, .null, .int) := by decide +kernel
theorem jF_235_127 : j_F 235 127 = some (.istore 10, 2, 0, 0, .null, .int) := by decide +kernel
theorem jF_235_129 : j_F 235 129 = some (.iload_n 1, 1, 0, 0, .null, .int) := by decide +kernel
theorem jF_235_130 : j_F 235 130 = some (.ifCond .ne 20, 3, 150, 0, .null, .int) := by decide +kernel
theorem jF_235_133 : j_F 235 133 = some (.aload_n 0, 1, 0, 0, .null, .int) := by decide +kernel
theorem jF_235_134 : j_F 235 134 = some (.aload_n 0, 1, 0, 0, .null, .int) := by decide +kernel
theorem jF_235_135 : j_F 235 135 = some (.getfield 60, 3, 12, 23, .null, (.array .char)) := by decide +kernel
theorem jF_235_138 : j_F 235 138 = some (.invokevirtual 288, 3, 234, 2, .null, .int) := by decide +kernel
theorem jF_235_141 : j_F 235 141 = some (.aload_n 0, 1, 0, 0, .null, .int) := by decide +kernel
theorem jF_235_142 : j_F 235 142 = some (.iconst 1, 1, 0, 0, .null, .int) := by decide +kernel
theorem jF_235_143 : j_F 235 143 = some (.bipush 99, 2, 0, 0, .null, .int) := by decide +kernel
theorem jF_235_145 : j_F 235 145 = some (.invokevirtual 292, 3, 230, 3, .null, .int) := by decide +kernel
theorem jF_235_148 : j_F 235 148 = some (.istore 10, 2, 0, 0, .null, .int) := by decide +kernel
theorem jF_235_150 : j_F 235 150 = some (.aload_n 0, 1, 0, 0, .null, .int) := by decide +kernel
theorem jF_235_151 : j_F 235 151 = some (.getfield 212, 3, 12, 5, .null, .int) := by decide +kernel
theorem jF_235_154 : j_F 235 154 = some (.ifCond .eq 4, 3, 158, 0, .null, .int) := by decide +kernel
theorem jF_235_157 : j_F 235 157 = some (.return_, 1, 0, 0, .null, .int) := by decide +kernel
theorem jF_235_158 : j_F 235 158 = some (.aload_n 0, 1, 0, 0, .null, .int) := by decide +kernel
theorem jF_235_159 : j_F 235 159 = some (.getfield 88, 3, 12, 35, .null, (.array .int)) := by decide +kernel
theorem jF_235_162 : j_F 235 162 = some (.iload 4, 2, 0, 0, .null, .int) := by decide +kernel
theorem jF_235_164 : j_F 235 164 = some (.iload 7, 2, 0, 0, .null, .int) := by decide +kernel
theorem jF_235_166 : j_F 235 166 = some (.iastore, 1, 0, 0, .null, .int) := by decide +kernel
theorem jF_235_167 : j_F 235 167 = some (.aload_n 0, 1, 0, 0, .null, .int) := by decide +kernel
theorem jF_235_168 : j_F 235 168 = some (.getfield 88, 3, 12, 35, .null, (.array .int)) := by decide +kernel
theorem jF_235_171 : j_F 235 171 = some (.iload 4, 2, 0, 0, .null, .int) := by decide +kernel
theorem jF_235_173 : j_F 235 173 = some (.iconst 1, 1, 0, 0, .null, .int) := by decide +kernel
theorem jF_235_174 : j_F 235 174 = some (.iadd, 1, 0, 0, .null, .int) := by decide +kernel
theorem jF_235_175 : j_F 235 175 = some (.iload 8, 2, 0, 0, .null, .int) := by decide +kernel
theorem jF_235_177 : j_F 235 177 = some (.iastore, 1, 0, 0, .null, .int) := by decide +kernel
theorem jF_235_178 : j_F 235 178 = some (.aload_n 0, 1, 0, 0, .null, .int) := by decide +kernel
theorem jF_235_179 : j_F 235 179 = some (.getfield 88, 3, 12, 35, .null, (.array .int)) := by decide +kernel
theorem jF_235_182 : j_F 235 182 = some (.iload 4, 2, 0, 0, .null, .int) := by decide +kernel
theorem jF_235_184 : j_F 235 184 = some (.iconst 2, 1, 0, 0, .null, .int) := by decide +kernel
theorem jF_235_185 : j_F 235 185 = some (.iadd, 1, 0, 0, .null, .int) := by decide +kernel
theorem jF_235_186 : j_F 235 186 = some (.iload 9, 2, 0, 0, .null, .int) := by decide +kernel
theorem jF_235_188 : j_F 235 188 = some (.iastore, 1, 0, 0, .null, .int) := by decide +kernel
theorem jF_235_189 : j_F 235 189 = some (.aload_n 0, 1, 0, 0, .null, .int) := by decide +kernel
theorem jF_235_190 : j_F 235 190 = some (.getfield 88, 3, 12, 35, .null, (.array .int)) := by decide +kernel
theorem jF_235_193 : j_F 235 193 = some (.iload 4, 2, 0, 0, .null, .int) := by decide +kernel
theorem jF_235_195 : j_F 235 195 = some (.iconst 3, 1, 0, 0, .null, .int) := by decide +kernel
theorem jF_235_196 : j_F 235 196 = some (.iadd, 1, 0, 0, .null, .int) := by decide +kernel
theorem jF_235_197 : j_F 235 197 = some (.iload 6, 2, 0, 0, .null, .int) := by decide +kernel
theorem jF_235_199 : j_F 235 199 = some (.ifCond .eq 7, 3, 206, 0, .null, .int) := by decide +kernel
theorem jF_235_202 : j_F 235 202 = some (.iconst 1, 1, 0, 0, .null, .int) := by decide +kernel
theorem jF_235_203 : j_F 235 203 = some (.goto 4, 3, 207, 0, .null, .int) := by decide +kernel
theorem jF_235_206 : j_F 235 206 = some (.iconst 0, 1, 0, 0, .null, .int) := by decide +kernel
theorem jF_235_207 : j_F 235 207 = some (.iastore, 1, 0, 0, .null, .int) := by decide +kernel
theorem jF_235_208 : j_F 235 208 = some (.aload_n 0, 1, 0, 0, .null, .int) := by decide +kernel
theorem jF_235_209 : j_F 235 209 = some (.getfield 88, 3, 12, 35, .null, (.array .int)) := by decide +kernel
theorem jF_235_212 : j_F 235 212 = some (.iload 4, 2, 0, 0, .null, .int) := by decide +kernel
theorem jF_235_214 : j_F 235 214 = some (.iconst 4, 1, 0, 0, .null, .int) := by decide +kernel
theorem jF_235_215 : j_F 235 215 = some (.iadd, 1, 0, 0, .null, .int) := by decide +kernel
theorem jF_235_216 : j_F 235 216 = some (.iload 5, 2, 0, 0, .null, .int) := by decide +kernel
theorem jF_235_218 : j_F 235 218 = some (.iastore, 1, 0, 0, .null, .int) := by decide +kernel
theorem jF_235_219 : j_F 235 219 = some (.aload_n 0, 1, 0, 0, .null, .int) := by decide +kernel
theorem jF_235_220 : j_F 235 220 = some (.getfield 88, 3, 12, 35, .null, (.array .int)) := by decide +kernel
theorem jF_235_223 : j_F 235 223 = some (.iload 4, 2, 0, 0, .null, .int) := by decide +kernel
theorem jF_235_225 : j_F 235 225 = some (.iconst 5, 1, 0, 0, .null, .int) := by decide +kernel
theorem jF_235_226 : j_F 235 226 = some (.iadd, 1, 0, 0, .null, .int) := by decide +kernel
theorem jF_235_227 : j_F 235 227 = some (.iload 10, 2, 0, 0, .null, .int) := by decide +kernel
theorem jF_235_229 : j_F 235 229 = some (.iastore, 1, 0, 0, .null, .int) := by decide +kernel
theorem jF_235_230 : j_F 235 230 = some (.aload_n 0, 1, 0, 0, .null, .int) := by decide +kernel
theorem jF_235_231 : j_F 235 231 = some (.getfield 91, 3, 12, 36, .null, (.array .int)) := by decide +kernel
theorem jF_235_234 : j_F 235 234 = some (.iload_n 1, 1, 0, 0, .null, .int) := by decide +kernel
theorem jF_235_235 : j_F 235 235 = some (.dup2, 1, 0, 0, .null, .int) := by decide +kernel
theorem jF_235_236 : j_F 235 236 = some (.iaload, 1, 0, 0, .null, .int) := by decide +kernel
theorem jF_235_237 : j_F 235 237 = some (.iconst 1, 1, 0, 0, .null, .int) := by decide +kernel
theorem jF_235_238 : j_F 235 238 = some (.iadd, 1, 0, 0, .null, .int) := by decide +kernel
theorem jF_235_239 : j_F 235 239 = some (.iastore, 1, 0, 0, .null, .int) := by decide +kernel
theorem jF_235_240 : j_F 235 240 = some (.return_, 1, 0, 0, .null, .int) := by decide +kernel
theorem jF_236_0 : j_F 236 0 = some (.iload_n 0, 1, 0, 0, .null, .int) := by decide +kernel
theorem jF_236_1 : j_F 236 1 = some (.ifCond .ne 7, 3, 8, 0, .null, .int) := by decide +kernel
theorem jF_236_4 : j_F 236 4 = some (.iconst 0, 1, 0, 0, .null, .int) := by decide +kernel
theorem jF_236_5 : j_F 236 5 = some (.goto 16, 3, 21, 0, .null, .int) := by decide +kernel
theorem jF_236_8 : j_F 236 8 = some (.iload_n 0, 1, 0, 0, .null, .int) := by decide +kernel
theorem jF_236_9 : j_F 236 9 = some (.iconst 1, 1, 0, 0, .null, .int) := by decide +kernel
theorem jF_236_10 : j_F 236 10 = some (.if_icmp .ne 8, 3, 18, 0, .null, .int) := by decide +kernel
theorem jF_236_13 : j_F 236 13 = some (.bipush 96, 2, 0, 0, .null, .int) := by decide +kernel
theorem jF_236_15 : j_F 236 15 = some (.goto 6, 3, 21, 0, .null, .int) := by decide +kernel
theorem jF_236_18 : j_F 236 18 = some (.sipush 144, 3, 0, 0, .null, .int) := by decide +kernel
theorem jF_236_21 : j_F 236 21 = some (.ireturn, 1, 0, 0, .null, .int) := by decide +kernel
theorem jF_237_0 : j_F 237 0 = some (.aload_n 0, 1, 0, 0, .null, .int) := by decide +kernel
theorem jF_237_1 : j_F 237 1 = some (.aload_n 0, 1, 0, 0, .null, .int) := by decide +kernel
theorem jF_237_2 : j_F 237 2 = some (.getfield 57, 3, 12, 22, .null, (.array .char)) := by decide +kernel
theorem jF_237_5 : j_F 237 5 = some (.invokevirtual 239, 3, 219, 2, .null, .int) := by decide +kernel
theorem jF_237_8 : j_F 237 8 = some (.ifCond .eq 5, 3, 13, 0, .null, .int) := by decide +kernel
theorem jF_237_11 : j_F 237 11 = some (.iconst (-1), 1, 0, 0, .null, .int) := by decide +kernel
theorem jF_237_12 : j_F 237 12 = some (.ireturn, 1, 0, 0, .null, .int) := by decide +kernel
theorem jF_237_13 : j_F 237 13 = some (.aload_n 0, 1, 0, 0, .null, .int) := by decide +kernel
theorem jF_237_14 : j_F 237 14 = some (.invokevirtual 270, 3, 225, 1, .null, .int) := by decide +kernel
theorem jF_237_17 : j_F 237 17 = some (.lstore_n 2, 1, 0, 0, .null, .int) := by decide +kernel
theorem jF_237_18 : j_F 237 18 = some (.aload_n 0, 1, 0, 0, .null, .int) := by decide +kernel
theorem jF_237_19 : j_F 237 19 = some (.lload_n 2, 1, 0, 0, .null, .int) := by decide +kernel
theorem jF_237_20 : j_F 237 20 = some (.invokevirtual 274, 3, 227, 2, .null, .int) := by decide +kernel
theorem jF_237_23 : j_F 237 23 = some (.istore 4, 2, 0, 0, .null, .int) := by decide +kernel
theorem jF_237_25 : j_F 237 25 = some (.iload 4, 2, 0, 0, .null, .int) := by decide +kernel
theorem jF_237_27 : j_F 237 27 = some (.bipush 12, 2, 0, 0, .null, .int) := by decide +kernel
theorem jF_237_29 : j_F 237 29 = some (.if_icmp .ge 8, 3, 37, 0, .null, .int) := by decide +kernel
theorem jF_237_32 : j_F 237 32 = some (.iload 4, 2, 0, 0, .null, .int) := by decide +kernel
theorem jF_237_34 : j_F 237 34 = some (.goto 13, 3, 47, 0, .null, .int) := by decide +kernel
theorem jF_237_37 : j_F 237 37 = some (.aload_n 0, 1, 0, 0, .null, .int) := by decide +kernel
theorem jF_237_38 : j_F 237 38 = some (.getfield 79, 3, 12, 30, .null, (.array .int)) := by decide +kernel
theorem jF_237_41 : j_F 237 41 = some (.iload 4, 2, 0, 0, .null, .int) := by decide +kernel
theorem jF_237_43 : j_F 237 43 = some (.bipush 12, 2, 0, 0, .null, .int) := by decide +kernel
theorem jF_237_45 : j_F 237 45 = some (.isub, 1, 0, 0, .null, .int) := by decide +kernel
theorem jF_237_46 : j_F 237 46 = some (.iaload, 1, 0, 0, .null, .int) := by decide +kernel
theorem jF_237_47 : j_F 237 47 = some (.istore 5, 2, 0, 0, .null, .int) := by decide +kernel
theorem jF_237_49 : j_F 237 49 = some (.aload_n 0, 1, 0, 0, .null, .int) := by decide +kernel
theorem jF_237_50 : j_F 237 50 = some (.getfield 212, 3, 12, 5, .null, .int) := by decide +kernel
theorem jF_237_53 : j_F 237 53 = some (.ifCond .ne 26, 3, 79, 0, .null, .int) := by decide +kernel
theorem jF_237_56 : j_F 237 56 = some (.iload 4, 2, 0, 0, .null, .int) := by decide +kernel
theorem jF_237_58 : j_F 237 58 = some (.iconst (-1), 1, 0, 0, .null, .int) := by decide +kernel
theorem jF_237_59 : j_F 237 59 = some (.if_icmp .eq 11, 3, 70, 0, .null, .int) := by decide +kernel
theorem jF_237_62 : j_F 237 62 = some (.iload 5, 2, 0, 0, .null, .int) := by decide +kernel
theorem jF_237_64 : j_F 237 64 = some (.iconst 4, 1, 0, 0, .null, .int) := by decide +kernel
theorem jF_237_65 : j_F 237 65 = some (.idiv, 1, 0, 0, .null, .int) := by decide +kernel
theorem jF_237_66 : j_F 237 66 = some (.iload_n 1, 1, 0, 0, .null, .int) := by decide +kernel
theorem jF_237_67 : j_F 237 67 = some (.if_icmp .eq 12, 3, 79, 0, .null, .int) := by decide +kernel
theorem jF_237_70 : j_F 237 70 = some (.aload_n 0, 1, 0, 0, .null, .int) := by decide +kernel
theorem jF_237_71 : j_F 237 71 = some (.iconst 3, 1, 0, 0, .null, .int) := by decide +kernel
theorem jF_237_72 : j_F 237 72 = some (.aload_n 0, 1, 0, 0, .null, .int) := by decide +kernel
theorem jF_237_73 : j_F 237 73 = some (.getfield 260, 3, 12, 28, .null, .int) := by decide +kernel
theorem jF_237_76 : j_F 237 76 = some (.invokevirtual 242, 3, 218, 3, .null, .int) := by decide +kernel
theorem jF_237_79 : j_F 237 79 = some (.aload_n 0, 1, 0, 0, .null, .int) := by decide +kernel
theorem jF_237_80 : j_F 237 80 = some (.getfield 212, 3, 12, 5, .null, .int) := by decide +kernel
theorem jF_237_83 : j_F 237 83 = some (.ifCond .ne 10, 3, 93, 0, .null, .int) := by decide +kernel
theorem jF_237_86 : j_F 237 86 = some (.iload 5, 2, 0, 0, .null, .int) := by decide +kernel
theorem jF_237_88 : j_F 237 88 = some (.iconst 4, 1, 0, 0, .null, .int) := by decide +kernel
theorem jF_237_89 : j_F 237 89 = some (.irem, 1, 0, 0, .null, .int) := by decide +kernel
theorem jF_237_90 : j_F 237 90 = some (.goto 4, 3, 94, 0, .null, .int) := by decide +kernel
theorem jF_237_93 : j_F 237 93 = some (.iconst (-1), 1, 0, 0, .null, .int) := by decide +kernel
theorem jF_237_94 : j_F 237 94 = some (.ireturn, 1, 0, 0, .null, .int) := by decide +kernel
theorem jF_238_0 : j_F 238 0 = some (.aload_n 0, 1, 0, 0, .null, .int) := by decide +kernel
theorem jF_238_1 : j_F 238 1 = some (.getfield 212, 3, 12, 5, .null, .int) := by decide +kernel
theorem jF_238_4 : j_F 238 4 = some (.ifCond .ne 20, 3, 24, 0, .null, .int) := by decide +kernel
theorem jF_238_7 : j_F 238 7 = some (.aload_n 0, 1, 0, 0, .null, .int) := by decide +kernel
theorem jF_238_8 : j_F 238 8 = some (.iload_n 1, 1, 0, 0, .null, .int) := by decide +kernel
theorem jF_238_9 : j_F 238 9 = some (.invokevirtual 246, 3, 239, 2, .null, .int) := by decide +kernel
theorem jF_238_12 : j_F 238 12 = some (.ifCond .ne 12, 3, 24, 0, .null, .int) := by decide +kernel
theorem jF_238_15 : j_F 238 15 = some (.aload_n 0, 1, 0, 0, .null, .int) := by decide +kernel
theorem jF_238_16 : j_F 238 16 = some (.iconst 1, 1, 0, 0, .null, .int) := by decide +kernel
theorem jF_238_17 : j_F 238 17 = some (.aload_n 0, 1, 0, 0, .null, .int) := by decide +kernel
theorem jF_238_18 : j_F 238 18 = some (.getfield 218, 3, 12, 2, .null, .int) := by decide +kernel
theorem jF_238_21 : j_F 238 21 = some (.invokevirtual 242, 3, 218, 3, .null, .int) := by decide +kernel
theorem jF_238_24 : j_F 238 24 = some (.return_, 1, 0, 0, .null, .int) := by decide +kernel
theorem jF_239_0 : j_F 239 0 = some (.aload_n 0, 1, 0, 0, .null, .int) := by decide +kernel
theorem jF_239_1 : j_F 239 1 = some (.getfield 212, 3, 12, 5, .null, .int) := by decide +kernel
theorem jF_239_4 : j_F 239 4 = some (.ifCond .ne 11, 3, 15, 0, .null, .int) := by decide +kernel
theorem jF_239_7 : j_F 239 7 = some (.aload_n 0, 1, 0, 0, .null, .int) := by decide +kernel
theorem jF_239_8 : j_F 239 8 = some (.invokevirtual 224, 3, 216, 1, .null, .int) := by decide +kernel
theorem jF_239_11 : j_F 239 11 = some (.iload_n 1, 1, 0, 0, .null, .int) := by decide +kernel
theorem jF_239_12 : j_F 239 12 = some (.if_icmp .eq 5, 3, 17, 0, .null, .int) := by decide +kernel
theorem jF_239_15 : j_F 239 15 = some (.iconst 0, 1, 0, 0, .null, .int) := by decide +kernel
theorem jF_239_16 : j_F 239 16 = some (.ireturn, 1, 0, 0, .null, .boolean) := by decide +kernel
theorem jF_239_17 : j_F 239 17 = some (.aload_n 0, 1, 0, 0, .null, .int) := by decide +kernel
theorem jF_239_18 : j_F 239 18 = some (.dup, 1, 0, 0, .null, .int) := by decide +kernel
theorem jF_239_19 : j_F 239 19 = some (.getfield 218, 3, 12, 2, .null, .int) := by decide +kernel
theorem jF_239_22 : j_F 239 22 = some (.iconst 1, 1, 0, 0, .null, .int) := by decide +kernel
theorem jF_239_23 : j_F 239 23 = some (.iadd, 1, 0, 0, .null, .int) := by decide +kernel
theorem jF_239_24 : j_F 239 24 = some (.putfield 218, 3, 12, 2, .null, .int) := by decide +kernel
theorem jF_239_27 : j_F 239 27 = some (.iconst 1, 1, 0, 0, .null, .int) := by decide +kernel
theorem jF_239_28 : j_F 239 28 = some (.ireturn, 1, 0, 0, .null, .boolean) := by decide +kernel
theorem jF_252_0 : j_F 252 0 = some (.aload_n 0, 1, 0, 0, .null, .int) := by decide +kernel
theorem jF_252_1 : j_F 252 1 = some (.invokevirtual 224, 3, 216, 1, .null, .int) := by decide +kernel
theorem jF_252_4 : j_F 252 4 = some (.istore_n 1, 1, 0, 0, .null, .int) := by decide +kernel
theorem jF_252_5 : j_F 252 5 = some (.aload_n 0, 1, 0, 0, .null, .int) := by decide +kernel
theorem jF_252_6 : j_F 252 6 = some (.getfield 212, 3, 12, 5, .null, .int) := by decide +kernel
theorem jF_252_9 : j_F 252 9 = some (.ifCond .ne 54, 3, 63, 0, .null, .int) := by decide +kernel
theorem jF_252_12 : j_F 252 12 = some (.iload_n 1, 1, 0, 0, .null, .int) := by decide +kernel
theorem jF_252_13 : j_F 252 13 = some (.invokestatic 228, 3, 221, 1, .null, .int) := by decide +kernel
theorem jF_252_16 : j_F 252 16 = some (.ifCond .eq 23, 3, 39, 0, .null, .int) := by decide +kernel
theorem jF_252_19 : j_F 252 19 = some (.aload_n 0, 1, 0, 0, .null, .int) := by decide +kernel
theorem jF_252_20 : j_F 252 20 = some (.getfield 371, 3, 12, 45, .null, .int) := by decide +kernel
theorem jF_252_23 : j_F 252 23 = some (.aload_n 0, 1, 0, 0, .null, .int) := by decide +kernel
theorem jF_252_24 : j_F 252 24 = some (.getfield 94, 3, 12, 38, .null, .int) := by decide +kernel
theorem jF_252_27 : j_F 252 27 = some (.if_icmp .eq 27, 3, 54, 0, .null, .int) := by decide +kernel
theorem jF_252_30 : j_F 252 30 = some (.aload_n 0, 1, 0, 0, .null, .int) := by decide +kernel
theorem jF_252_31 : j_F 252 31 = some (.getfield 368, 3, 12, 44, .null, .int) := by decide +kernel
theorem jF_252_34 : j_F 252 34 = some (.bipush 60, 2, 0, 0, .null, .int) := by decide +kernel
theorem jF_252_36 : j_F 252 36 = some (.if_icmp .eq 18, 3, 54, 0, .null, .int) := by decide +kernel
theorem jF_252_39 : j_F 252 39 = some (.iload_n 1, 1, 0, 0, .null, .int) := by decide +kernel
theorem jF_252_40 : j_F 252 40 = some (.bipush 46, 2, 0, 0, .null, .int) := by decide +kernel
theorem jF_252_42 : j_F 252 42 = some (.if_icmp .ne 21, 3, 63, 0, .null, .int) := by decide +kernel
theorem jF_252_45 : j_F 252 45 = some (.aload_n 0, 1, 0, 0, .null, .int) := by decide +kernel
theorem jF_252_46 : j_F 252 46 = some (.getfield 368, 3, 12, 44, .null, .int) := by decide +kernel
theorem jF_252_49 : j_F 252 49 = some (.bipush 60, 2, 0, 0, .null, .int) := by decide +kernel
theorem jF_252_51 : j_F 252 51 = some (.if_icmp .ne 12, 3, 63, 0, .null, .int) := by decide +kernel
theorem jF_252_54 : j_F 252 54 = some (.aload_n 0, 1, 0, 0, .null, .int) := by decide +kernel
theorem jF_252_55 : j_F 252 55 = some (.iconst 5, 1, 0, 0, .null, .int) := by decide +kernel
theorem jF_252_56 : j_F 252 56 = some (.aload_n 0, 1, 0, 0, .null, .int) := by decide +kernel
theorem jF_252_57 : j_F 252 57 = some (.getfield 218, 3, 12, 2, .null, .int) := by decide +kernel
theorem jF_252_60 : j_F 252 60 = some (.invokevirtual 242, 3, 218, 3, .null, .int) := by decide +kernel
theorem jF_252_63 : j_F 252 63 = some (.aload_n 0, 1, 0, 0, .null, .int) := by decide +kernel
theorem jF_252_64 : j_F 252 64 = some (.getfield 212, 3, 12, 5, .null, .int) := by decide +kernel
theorem jF_252_67 : j_F 252 67 = some (.ifCond .ne 7, 3, 74, 0, .null, .int) := by decide +kernel
theorem jF_252_70 : j_F 252 70 = some (.iconst 1, 1, 0, 0, .null, .int) := by decide +kernel
theorem jF_252_71 : j_F 252 71 = some (.goto 4, 3, 75, 0, .null, .int) := by decide +kernel
theorem jF_252_74 : j_F 252 74 = some (.iconst 0, 1, 0, 0, .null, .int) := by decide +kernel
theorem jF_252_75 : j_F 252 75 = some (.ireturn, 1, 0, 0, .null, .boolean) := by decide +kernel
theorem jF_253_0 : j_F 253 0 = some (.iconst 0, 1, 0, 0, .null, .int) := by decide +kernel
theorem jF_253_1 : j_F 253 1 = some (.istore_n 1, 1, 0, 0, .null, .int) := by decide +kernel
theorem jF_253_2 : j_F 253 2 = some (.aload_n 0, 1, 0, 0, .null, .int) := by decide +kernel
theorem jF_253_3 : j_F 253 3 = some (.invokevirtual 383, 3, 254, 1, .null, .int) := by decide +kernel
theorem jF_253_6 : j_F 253 6 = some (.aload_n 0, 1, 0, 0, .null, .int) := by decide +kernel
theorem jF_253_7 : j_F 253 7 = some (.invokevirtual 374, 3, 252, 1, .null, .int) := by decide +kernel
theorem jF_253_10 : j_F 253 10 = some (.ifCond .eq 109, 3, 119, 0, .null, .int) := by decide +kernel
theorem jF_253_13 : j_F 253 13 = some (.aload_n 0, 1, 0, 0, .null, .int) := by decide +kernel
theorem jF_253_14 : j_F 253 14 = some (.invokevirtual 224, 3, 216, 1, .null, .int) := by decide +kernel
theorem jF_253_17 : j_F 253 17 = some (.bipush 46, 2, 0, 0, .null, .int) := by decide +kernel
theorem jF_253_19 : j_F 253 19 = some (.if_icmp .eq 100, 3, 119, 0, .null, .int) := by decide +kernel
theorem jF_253_22 : j_F 253 22 = some (.aload_n 0, 1, 0, 0, .null, .int) := by decide +kernel
theorem jF_253_23 : j_F 253 23 = some (.aload_n 0, 1, 0, 0, .null, .int) := by decide +kernel
theorem jF_253_24 : j_F 253 24 = some (.getfield 63, 3, 12, 24, .null, (.array .char)) := by decide +kernel
theorem jF_253_27 : j_F 253 27 = some (.invokevirtual 239, 3, 219, 2, .null, .int) := by decide +kernel
theorem jF_253_30 : j_F 253 30 = some (.ifCond .eq 8, 3, 38, 0, .null, .int) := by decide +kernel
theorem jF_253_33 : j_F 253 33 = some (.bipush 18, 2, 0, 0, .null, .int) := by decide +kernel
theorem jF_253_35 : j_F 253 35 = some (.goto 40, 3, 75, 0, .null, .int) := by decide +kernel
theorem jF_253_38 : j_F 253 38 = some (.aload_n 0, 1, 0, 0, .null, .int) := by decide +kernel
theorem jF_253_39 : j_F 253 39 = some (.aload_n 0, 1, 0, 0, .null, .int) := by decide +kernel
theorem jF_253_40 : j_F 253 40 = some (.getfield 66, 3, 12, 25, .null, (.array .char)) := by decide +kernel
theorem jF_253_43 : j_F 253 43 = some (.invokevirtual 239, 3, 219, 2, .null, .int) := by decide +kernel
theorem jF_253_46 : j_F 253 46 = some (.ifCond .eq 8, 3, 54, 0, .null, .int) := by decide +kernel
theorem jF_253_49 : j_F 253 49 = some (.bipush 19, 2, 0, 0, .null, .int) := by decide +kernel
theorem jF_253_51 : j_F 253 51 = some (.goto 24, 3, 75, 0, .null, .int) := by decide +kernel
theorem jF_253_54 : j_F 253 54 = some (.iload_n 1, 1, 0, 0, .null, .int) := by decide +kernel
theorem jF_253_55 : j_F 253 55 = some (.ifCond .ne 19, 3, 74, 0, .null, .int) := by decide +kernel
theorem jF_253_58 : j_F 253 58 = some (.aload_n 0, 1, 0, 0, .null, .int) := by decide +kernel
theorem jF_253_59 : j_F 253 59 = some (.aload_n 0, 1, 0, 0, .null, .int) := by decide +kernel
theorem jF_253_60 : j_F 253 60 = some (.getfield 72, 3, 12, 27, .null, (.array .char)) := by decide +kernel
theorem jF_253_63 : j_F 253 63 = some (.invokevirtual 239, 3, 219, 2, .null, .int) := by decide +kernel
theorem jF_253_66 : j_F 253 66 = some (.ifCond .eq 8, 3, 74, 0, .null, .int) := by decide +kernel
theorem jF_253_69 : j_F 253 69 = some (.bipush 21, 2, 0, 0, .null, .int) := by decide +kernel
theorem jF_253_71 : j_F 253 71 = some (.goto 4, 3, 75, 0, .null, .int) := by decide +kernel
theorem jF_253_74 : j_F 253 74 = some (.iconst (-1), 1, 0, 0, .null, .int) := by decide +kernel
theorem jF_253_75 : j_F 253 75 = some (.istore_n 2, 1, 0, 0, .null, .int) := by decide +kernel
theorem jF_253_76 : j_F 253 76 = some (.iload_n 2, 1, 0, 0, .null, .int) := by decide +kernel
theorem jF_253_77 : j_F 253 77 = some (.iconst (-1), 1, 0, 0, .null, .int) := by decide +kernel
theorem jF_253_78 : j_F 253 78 = some (.if_icmp .ne 13, 3, 91, 0, .null, .int) := by decide +kernel
theorem jF_253_81 : j_F 253 81 = some (.aload_n 0, 1, 0, 0, .null, .int) := by decide +kernel
theorem jF_253_82 : j_F 253 82 = some (.iconst 1, 1, 0, 0, .null, .int) := by decide +kernel
theorem jF_253_83 : j_F 253 83 = some (.aload_n 0, 1, 0, 0, .null, .int) := by decide +kernel
theorem jF_253_84 : j_F 253 84 = some (.getfield 218, 3, 12, 2, .null, .int) := by decide +kernel
theorem jF_253_87 : j_F 253 87 = some (.invokevirtual 242, 3, 218, 3, .null, .int) := by decide +kernel
theorem jF_253_90 : j_F 253 90 = some (.return_, 1, 0, 0, .null, .int) := by decide +kernel
theorem jF_253_91 : j_F 253 91 = some (.iload_n 1, 1, 0, 0, .null, .int) := by decide +kernel
theorem jF_253_92 : j_F 253 92 = some (.ifCond .ne 9, 3, 101, 0, .null, .int) := by decide +kernel
theorem jF_253_95 : j_F 253 95 = some (.iload_n 2, 1, 0, 0, .null, .int) := by decide +kernel
theorem jF_253_96 : j_F 253 96 = some (.bipush 21, 2, 0, 0, .null, .int) := by decide +kernel
theorem jF_253_98 : j_F 253 98 = some (.if_icmp .ne 7, 3, 105, 0, .null, .int) := by decide +kernel
theorem jF_253_101 : j_F 253 101 = some (.iconst 1, 1, 0, 0, .null, .int) := by decide +kernel
theorem jF_253_102 : j_F 253 102 = some (.goto 4, 3, 106, 0, .null, .int) := by decide +kernel
theorem jF_253_105 : j_F 253 105 = some (.iconst 0, 1, 0, 0, .null, .int) := by decide +kernel
theorem jF_253_106 : j_F 253 106 = some (.istore_n 1, 1, 0, 0, .null, .int) := by decide +kernel
theorem jF_253_107 : j_F 253 107 = some (.aload_n 0, 1, 0, 0, .null, .int) := by decide +kernel
theorem jF_253_108 : j_F 253 108 = some (.iload_n 2, 1, 0, 0, .null, .int) := by decide +kernel
theorem jF_253_109 : j_F 253 109 = some (.invokevirtual 377, 3, 255, 2, .null, .int) := by decide +kernel
theorem jF_253_112 : j_F 253 112 = some (.aload_n 0, 1, 0, 0, .null, .int) := by decide +kernel
theorem jF_253_113 : j_F 253 113 = some (.invokevirtual 383, 3, 254, 1, .null, .int) := by decide +kernel
theorem jF_253_116 : j_F 253 116 = some (.goto (-110), 3, 6, 0, .null, .int) := by decide +kernel
theorem jF_253_119 : j_F 253 119 = some (.aload_n 0, 1, 0, 0, .null, .int) := by decide +kernel
theorem jF_253_120 : j_F 253 120 = some (.bipush 46, 2, 0, 0, .null, .int) := by decide +kernel
theorem jF_253_122 : j_F 253 122 = some (.invokevirtual 322, 3, 238, 2, .null, .int) := by decide +kernel
theorem jF_253_125 : j_F 253 125 = some (.aload_n 0, 1, 0, 0, .null, .int) := by decide +kernel
theorem jF_253_126 : j_F 253 126 = some (.getfield 212, 3, 12, 5, .null, .int) := by decide +kernel
theorem jF_253_129 : j_F 253 129 = some (.ifCond .ne 9, 3, 138, 0, .null, .int) := by decide +kernel
theorem jF_253_132 : j_F 253 132 = some (.aload_n 0, 1, 0, 0, .null, .int) := by decide +kernel
theorem jF_253_133 : j_F 253 133 = some (.bipush 22, 2, 0, 0, .null, .int) := by decide +kernel
theorem jF_253_135 : j_F 253 135 = some (.invokevirtual 377, 3, 255, 2, .null, .int) := by decide +kernel
theorem jF_253_138 : j_F 253 138 = some (.return_, 1, 0, 0, .null, .int) := by decide +kernel
theorem jF_254_0 : j_F 254 0 = some (.aload_n 0, 1, 0, 0, .null, .int) := by decide +kernel
theorem jF_254_1 : j_F 254 1 = some (.invokevirtual 374, 3, 252, 1, .null, .int) := by decide +kernel
theorem jF_254_4 : j_F 254 4 = some (.ifCond .eq 23, 3, 27, 0, .null, .int) := by decide +kernel
theorem jF_254_7 : j_F 254 7 = some (.aload_n 0, 1, 0, 0, .null, .int) := by decide +kernel
theorem jF_254_8 : j_F 254 8 = some (.aload_n 0, 1, 0, 0, .null, .int) := by decide +kernel
theorem jF_254_9 : j_F 254 9 = some (.getfield 69, 3, 12, 26, .null, (.array .char)) := by decide +kernel
theorem jF_254_12 : j_F 254 12 = some (.invokevirtual 239, 3, 219, 2, .null, .int) := by decide +kernel
theorem jF_254_15 : j_F 254 15 = some (.ifCond .eq 12, 3, 27, 0, .null, .int) := by decide +kernel
theorem jF_254_18 : j_F 254 18 = some (.aload_n 0, 1, 0, 0, .null, .int) := by decide +kernel
theorem jF_254_19 : j_F 254 19 = some (.bipush 20, 2, 0, 0, .null, .int) := by decide +kernel
theorem jF_254_21 : j_F 254 21 = some (.invokevirtual 377, 3, 255, 2, .null, .int) := by decide +kernel
theorem jF_254_24 : j_F 254 24 = some (.goto (-24), 3, 0, 0, .null, .int) := by decide +kernel
theorem jF_254_27 : j_F 254 27 = some (.aload_n 0, 1, 0, 0, .null, .int) := by decide +kernel
theorem jF_254_28 : j_F 254 28 = some (.getfield 212, 3, 12, 5, .null, .int) := by decide +kernel
theorem jF_254_31 : j_F 254 31 = some (.ifCond .eq 4, 3, 35, 0, .null, .int) := by decide +kernel
theorem jF_254_34 : j_F 254 34 = some (.return_, 1, 0, 0, .null, .int) := by decide +kernel
theorem jF_254_35 : j_F 254 35 = some (.aload_n 0, 1, 0, 0, .null, .int) := by decide +kernel
theorem jF_254_36 : j_F 254 36 = some (.invokevirtual 270, 3, 225, 1, .null, .int) := by decide +kernel
theorem jF_254_39 : j_F 254 39 = some (.lstore_n 1, 1, 0, 0, .null, .int) := by decide +kernel
theorem jF_254_40 : j_F 254 40 = some (.aload_n 0, 1, 0, 0, .null, .int) := by decide +kernel
theorem jF_254_41 : j_F 254 41 = some (.lload_n 1, 1, 0, 0, .null, .int) := by decide +kernel
theorem jF_254_42 : j_F 254 42 = some (.invokevirtual 380, 3, 256, 2, .null, .int) := by decide +kernel
theorem jF_254_45 : j_F 254 45 = some (.istore_n 3, 1, 0, 0, .null, .int) := by decide +kernel
theorem jF_254_46 : j_F 254 46 = some (.aload_n 0, 1, 0, 0, .null, .int) := by decide +kernel
theorem jF_254_47 : j_F 254 47 = some (.getfield 212, 3, 12, 5, .null, .int) := by decide +kernel
theorem jF_254_50 : j_F 254 50 = some (.ifCond .ne 17, 3, 67, 0, .null, .int) := by decide +kernel
theorem jF_254_53 : j_F 254 53 = some (.iload_n 3, 1, 0, 0, .null, .int) := by decide +kernel
theorem jF_254_54 : j_F 254 54 = some (.iconst (-1), 1, 0, 0, .null, .int) := by decide +kernel
theorem jF_254_55 : j_F 254 55 = some (.if_icmp .ne 12, 3, 67, 0, .null, .int) := by decide +kernel
theorem jF_254_58 : j_F 254 58 = some (.aload_n 0, 1, 0, 0, .null, .int) := by decide +kernel
theorem jF_254_59 : j_F 254 59 = some (.iconst 3, 1, 0, 0, .null, .int) := by decide +kernel
theorem jF_254_60 : j_F 254 60 = some (.aload_n 0, 1, 0, 0, .null, .int) := by decide +kernel
theorem jF_254_61 : j_F 254 61 = some (.getfield 260, 3, 12, 28, .null, .int) := by decide +kernel
theorem jF_254_64 : j_F 254 64 = some (.invokevirtual 242, 3, 218, 3, .null, .int) := by decide +kernel
theorem jF_254_67 : j_F 254 67 = some (.aload_n 0, 1, 0, 0, .null, .int) := by decide +kernel
theorem jF_254_68 : j_F 254 68 = some (.getfield 212, 3, 12, 5, .null, .int) := by decide +kernel
theorem jF_254_71 : j_F 254 71 = some (.ifCond .ne 8, 3, 79, 0, .null, .int) := by decide +kernel
theorem jF_254_74 : j_F 254 74 = some (.aload_n 0, 1, 0, 0, .null, .int) := by decide +kernel
theorem jF_254_75 : j_F 254 75 = some (.iload_n 3, 1, 0, 0, .null, .int) := by decide +kernel
theorem jF_254_76 : j_F 254 76 = some (.invokevirtual 377, 3, 255, 2, .null, .int) := by decide +kernel
theorem jF_254_79 : j_F 254 79 = some (.return_, 1, 0, 0, .null, .int) := by decide +kernel
theorem jF_255_0 : j_F 255 0 = some (.aload_n 0, 1, 0, 0, .null, .int) := by decide +kernel
theorem jF_255_1 : j_F 255 1 = some (.getfield 103, 3, 12, 43, .null, (.array .int)) := by decide +kernel
theorem jF_255_4 : j_F 255 4 = some (.aload_n 0, 1, 0, 0, .null, .int) := by decide +kernel
theorem jF_255_5 : j_F 255 5 = some (.getfield 368, 3, 12, 44, .null, .int) := by decide +kernel
theorem jF_255_8 : j_F 255 8 = some (.iload_n 1, 1, 0, 0, .null, .int) := by decide +kernel
theorem jF_255_9 : j_F 255 9 = some (.iastore, 1, 0, 0, .null, .int) := by decide +kernel
theorem jF_255_10 : j_F 255 10 = some (.aload_n 0, 1, 0, 0, .null, .int) := by decide +kernel
theorem jF_255_11 : j_F 255 11 = some (.dup, 1, 0, 0, .null, .int) := by decide +kernel
theorem jF_255_12 : j_F 255 12 = some (.getfield 368, 3, 12, 44, .null, .int) := by decide +kernel
theorem jF_255_15 : j_F 255 15 = some (.iconst 1, 1, 0, 0, .null, .int) := by decide +kernel
theorem jF_255_16 : j_F 255 16 = some (.iadd, 1, 0, 0, .null, .int) := by decide +kernel
theorem jF_255_17 : j_F 255 17 = some (.putfield 368, 3, 12, 44, .null, .int) := by decide +kernel
theorem jF_255_20 : j_F 255 20 = some (.iload_n 1, 1, 0, 0, .null, .int) := by decide +kernel
theorem jF_255_21 : j_F 255 21 = some (.bipush 22, 2, 0, 0, .null, .int) := by decide +kernel
theorem jF_255_23 : j_F 255 23 = some (.if_icmp .eq 13, 3, 36, 0, .null, .int) := by decide +kernel
theorem jF_255_26 : j_F 255 26 = some (.aload_n 0, 1, 0, 0, .null, .int) := by decide +kernel
theorem jF_255_27 : j_F 255 27 = some (.dup, 1, 0, 0, .null, .int) := by decide +kernel
theorem jF_255_28 : j_F 255 28 = some (.getfield 371, 3, 12, 45, .null, .int) := by decide +kernel
theorem jF_255_31 : j_F 255 31 = some (.iconst 1, 1, 0, 0, .null, .int) := by decide +kernel
theorem jF_255_32 : j_F 255 32 = some (.iadd, 1, 0, 0, .null, .int) := by decide +kernel
theorem jF_255_33 : j_F 255 33 = some (.putfield 371, 3, 12, 45, .null, .int) := by decide +kernel
theorem jF_255_36 : j_F 255 36 = some (.return_, 1, 0, 0, .null, .int) := by decide +kernel
theorem jF_256_0 : j_F 256 0 = some (.iconst 0, 1, 0, 0, .null, .int) := by decide +kernel
theorem jF_256_1 : j_F 256 1 = some (.istore_n 3, 1, 0, 0, .null, .int) := by decide +kernel
theorem jF_256_2 : j_F 256 2 = some (.iload_n 3, 1, 0, 0, .null, .int) := by decide +kernel
theorem jF_256_3 : j_F 256 3 = some (.bipush 18, 2, 0, 0, .null, .int) := by decide +kernel
theorem jF_256_5 : j_F 256 5 = some (.if_icmp .ge 31, 3, 36, 0, .null, .int) := by decide +kernel
theorem jF_256_8 : j_F 256 8 = some (.lload_n 1, 1, 0, 0, .null, .int) := by decide +kernel
theorem jF_256_9 : j_F 256 9 = some (.lconst 0, 1, 0, 0, .null, .int) := by decide +kernel
theorem jF_256_10 : j_F 256 10 = some (.lcmp, 1, 0, 0, .null, .int) := by decide +kernel
theorem jF_256_11 : j_F 256 11 = some (.ifCond .eq 19, 3, 30, 0, .null, .int) := by decide +kernel
theorem jF_256_14 : j_F 256 14 = some (.aload_n 0, 1, 0, 0, .null, .int) := by decide +kernel
theorem jF_256_15 : j_F 256 15 = some (.getfield 75, 3, 12, 29, .null, (.array .long)) := by decide +kernel
theorem jF_256_18 : j_F 256 18 = some (.bipush 18, 2, 0, 0, .null, .int) := by decide +kernel
theorem jF_256_20 : j_F 256 20 = some (.iload_n 3, 1, 0, 0, .null, .int) := by decide +kernel
theorem jF_256_21 : j_F 256 21 = some (.iadd, 1, 0, 0, .null, .int) := by decide +kernel
theorem jF_256_22 : j_F 256 22 = some (.laload, 1, 0, 0, .null, .int) := by decide +kernel
theorem jF_256_23 : j_F 256 23 = some (.lload_n 1, 1, 0, 0, .null, .int) := by decide +kernel
theorem jF_256_24 : j_F 256 24 = some (.lcmp, 1, 0, 0, .null, .int) := by decide +kernel
theorem jF_256_25 : j_F 256 25 = some (.ifCond .ne 5, 3, 30, 0, .null, .int) := by decide +kernel
theorem jF_256_28 : j_F 256 28 = some (.iload_n 3, 1, 0, 0, .null, .int) := by decide +kernel
theorem jF_256_29 : j_F 256 29 = some (.ireturn, 1, 0, 0, .null, .int) := by decide +kernel
theorem jF_256_30 : j_F 256 30 = some (.iinc 3 1, 3, 0, 0, .null, .int) := by decide +kernel
theorem jF_256_33 : j_F 256 33 = some (.goto (-31), 3, 2, 0, .null, .int) := by decide +kernel
theorem jF_256_36 : j_F 256 36 = some (.iconst (-1), 1, 0, 0, .null, .int) := by decide +kernel
theorem jF_256_37 : j_F 256 37 = some (.ireturn, 1, 0, 0, .null, .int) := by decide +kernel

