/-! CODE. -/
theorem jF_259_0 : j_F 259 0 = some (.lconst 0, 1, 0, 0, .null, .int) := by decide +kernel
theorem jF_259_1 : j_F 259 1 = some (.lstore_n 1, 1, 0, 0, .null, .int) := by decide +kernel
theorem jF_259_2 : j_F 259 2 = some (.iconst 0, 1, 0, 0, .null, .int) := by decide +kernel
theorem jF_259_3 : j_F 259 3 = some (.istore_n 3, 1, 0, 0, .null, .int) := by decide +kernel
theorem jF_259_4 : j_F 259 4 = some (.iload_n 3, 1, 0, 0, .null, .int) := by decide +kernel
theorem jF_259_5 : j_F 259 5 = some (.aload_n 0, 1, 0, 0, .null, .int) := by decide +kernel
theorem jF_259_6 : j_F 259 6 = some (.getfield 401, 3, 12, 49, .null, .int) := by decide +kernel
theorem jF_259_9 : j_F 259 9 = some (.if_icmp .ge 20, 3, 29, 0, .null, .int) := by decide +kernel
theorem jF_259_12 : j_F 259 12 = some (.lload_n 1, 1, 0, 0, .null, .int) := by decide +kernel
theorem jF_259_13 : j_F 259 13 = some (.aload_n 0, 1, 0, 0, .null, .int) := by decide +kernel
theorem jF_259_14 : j_F 259 14 = some (.iload_n 3, 1, 0, 0, .null, .int) := by decide +kernel
theorem jF_259_15 : j_F 259 15 = some (.invokevirtual 409, 3, 260, 2, .null, .int) := by decide +kernel
theorem jF_259_18 : j_F 259 18 = some (.lor, 1, 0, 0, .null, .int) := by decide +kernel
theorem jF_259_19 : j_F 259 19 = some (.lstore_n 1, 1, 0, 0, .null, .int) := by decide +kernel
theorem jF_259_20 : j_F 259 20 = some (.aload_n 0, 1, 0, 0, .null, .int) := by decide +kernel
theorem jF_259_21 : j_F 259 21 = some (.iload_n 3, 1, 0, 0, .null, .int) := by decide +kernel
theorem jF_259_22 : j_F 259 22 = some (.invokevirtual 413, 3, 261, 2, .null, .int) := by decide +kernel
theorem jF_259_25 : j_F 259 25 = some (.istore_n 3, 1, 0, 0, .null, .int) := by decide +kernel
theorem jF_259_26 : j_F 259 26 = some (.goto (-22), 3, 4, 0, .null, .int) := by decide +kernel
theorem jF_259_29 : j_F 259 29 = some (.lload_n 1, 1, 0, 0, .null, .int) := by decide +kernel
theorem jF_259_30 : j_F 259 30 = some (.lreturn, 1, 0, 0, .null, .int) := by decide +kernel
theorem jF_260_0 : j_F 260 0 = some (.lconst 0, 1, 0, 0, .null, .int) := by decide +kernel
theorem jF_260_1 : j_F 260 1 = some (.lstore_n 2, 1, 0, 0, .null, .int) := by decide +kernel
theorem jF_260_2 : j_F 260 2 = some (.lconst 0, 1, 0, 0, .null, .int) := by decide +kernel
theorem jF_260_3 : j_F 260 3 = some (.lstore 4, 2, 0, 0, .null, .int) := by decide +kernel
theorem jF_260_5 : j_F 260 5 = some (.iconst 0, 1, 0, 0, .null, .int) := by decide +kernel
theorem jF_260_6 : j_F 260 6 = some (.istore 6, 2, 0, 0, .null, .int) := by decide +kernel
theorem jF_260_8 : j_F 260 8 = some (.iconst 0, 1, 0, 0, .null, .int) := by decide +kernel
theorem jF_260_9 : j_F 260 9 = some (.istore 7, 2, 0, 0, .null, .int) := by decide +kernel
theorem jF_260_11 : j_F 260 11 = some (.iconst (-1), 1, 0, 0, .null, .int) := by decide +kernel
theorem jF_260_12 : j_F 260 12 = some (.istore 8, 2, 0, 0, .null, .int) := by decide +kernel
theorem jF_260_14 : j_F 260 14 = some (.iload_n 1, 1, 0, 0, .null, .int) := by decide +kernel
theorem jF_260_15 : j_F 260 15 = some (.istore 9, 2, 0, 0, .null, .int) := by decide +kernel
theorem jF_260_17 : j_F 260 17 = some (.aload_n 0, 1, 0, 0, .null, .int) := by decide +kernel
theorem jF_260_18 : j_F 260 18 = some (.getfield 112, 3, 12, 48, .null, (.array .int)) := by decide +kernel
theorem jF_260_21 : j_F 260 21 = some (.iload 9, 2, 0, 0, .null, .int) := by decide +kernel
theorem jF_260_23 : j_F 260 23 = some (.iaload, 1, 0, 0, .null, .int) := by decide +kernel
theorem jF_260_24 : j_F 260 24 = some (.bipush 22, 2, 0, 0, .null, .int) := by decide +kernel
theorem jF_260_26 : j_F 260 26 = some (.if_icmp .eq 139, 3, 165, 0, .null, .int) := by decide +kernel
theorem jF_260_29 : j_F 260 29 = some (.aload_n 0, 1, 0, 0, .null, .int) := by decide +kernel
theorem jF_260_30 : j_F 260 30 = some (.getfield 112, 3, 12, 48, .null, (.array .int)) := by decide +kernel
theorem jF_260_33 : j_F 260 33 = some (.iload 9, 2, 0, 0, .null, .int) := by decide +kernel
theorem jF_260_35 : j_F 260 35 = some (.iaload, 1, 0, 0, .null, .int) := by decide +kernel
theorem jF_260_36 : j_F 260 36 = some (.istore 10, 2, 0, 0, .null, .int) := by decide +kernel
theorem jF_260_38 : j_F 260 38 = some (.iload 10, 2, 0, 0, .null, .int) := by decide +kernel
theorem jF_260_40 : j_F 260 40 = some (.bipush 20, 2, 0, 0, .null, .int) := by decide +kernel
theorem jF_260_42 : j_F 260 42 = some (.if_icmp .ne 18, 3, 60, 0, .null, .int) := by decide +kernel
theorem jF_260_45 : j_F 260 45 = some (.iload 7, 2, 0, 0, .null, .int) := by decide +kernel
theorem jF_260_47 : j_F 260 47 = some (.ifCond .ne 7, 3, 54, 0, .null, .int) := by decide +kernel
theorem jF_260_50 : j_F 260 50 = some (.iconst 1, 1, 0, 0, .null, .int) := by decide +kernel
theorem jF_260_51 : j_F 260 51 = some (.goto 4, 3, 55, 0, .null, .int) := by decide +kernel
theorem jF_260_54 : j_F 260 54 = some (.iconst 0, 1, 0, 0, .null, .int) := by decide +kernel
theorem jF_260_55 : j_F 260 55 = some (.istore 7, 2, 0, 0, .null, .int) := by decide +kernel
theorem jF_260_57 : j_F 260 57 = some (.goto 102, 3, 159, 0, .null, .int) := by decide +kernel
theorem jF_260_60 : j_F 260 60 = some (.iload 10, 2, 0, 0, .null, .int) := by decide +kernel
theorem jF_260_62 : j_F 260 62 = some (.bipush 21, 2, 0, 0, .null, .int) := by decide +kernel
theorem jF_260_64 : j_F 260 64 = some (.if_icmp .ne 15, 3, 79, 0, .null, .int) := by decide +kernel
theorem jF_260_67 : j_F 260 67 = some (.lload_n 2, 1, 0, 0, .null, .int) := by decide +kernel
theorem jF_260_68 : j_F 260 68 = some (.lstore 4, 2, 0, 0, .null, .int) := by decide +kernel
theorem jF_260_70 : j_F 260 70 = some (.iconst 1, 1, 0, 0, .null, .int) := by decide +kernel
theorem jF_260_71 : j_F 260 71 = some (.istore 6, 2, 0, 0, .null, .int) := by decide +kernel
theorem jF_260_73 : j_F 260 73 = some (.iconst (-1), 1, 0, 0, .null, .int) := by decide +kernel
theorem jF_260_74 : j_F 260 74 = some (.istore 8, 2, 0, 0, .null, .int) := by decide +kernel
theorem jF_260_76 : j_F 260 76 = some (.goto 83, 3, 159, 0, .null, .int) := by decide +kernel
theorem jF_260_79 : j_F 260 79 = some (.iload 10, 2, 0, 0, .null, .int) := by decide +kernel
theorem jF_260_81 : j_F 260 81 = some (.bipush 18, 2, 0, 0, .null, .int) := by decide +kernel
theorem jF_260_83 : j_F 260 83 = some (.if_icmp .lt 10, 3, 93, 0, .null, .int) := by decide +kernel
theorem jF_260_86 : j_F 260 86 = some (.iload 10, 2, 0, 0, .null, .int) := by decide +kernel
theorem jF_260_88 : j_F 260 88 = some (.istore 8, 2, 0, 0, .null, .int) := by decide +kernel
theorem jF_260_90 : j_F 260 90 = some (.goto 69, 3, 159, 0, .null, .int) := by decide +kernel
theorem jF_260_93 : j_F 260 93 = some (.iload 7, 2, 0, 0, .null, .int) := by decide +kernel
theorem jF_260_95 : j_F 260 95 = some (.ifCond .eq 22, 3, 117, 0, .null, .int) := by decide +kernel
theorem jF_260_98 : j_F 260 98 = some (.aload_n 0, 1, 0, 0, .null, .int) := by decide +kernel
theorem jF_260_99 : j_F 260 99 = some (.getfield 355, 3, 12, 42, .null, .long) := by decide +kernel
theorem jF_260_102 : j_F 260 102 = some (.aload_n 0, 1, 0, 0, .null, .int) := by decide +kernel
theorem jF_260_103 : j_F 260 103 = some (.getfield 97, 3, 12, 40, .null, (.array .long)) := by decide +kernel
theorem jF_260_106 : j_F 260 106 = some (.iload 10, 2, 0, 0, .null, .int) := by decide +kernel
theorem jF_260_108 : j_F 260 108 = some (.laload, 1, 0, 0, .null, .int) := by decide +kernel
theorem jF_260_109 : j_F 260 109 = some (.ldc2_w 407, 3, 0, 0, (.long (-1)), .int) := by decide +kernel
theorem jF_260_112 : j_F 260 112 = some (.lxor, 1, 0, 0, .null, .int) := by decide +kernel
theorem jF_260_113 : j_F 260 113 = some (.land, 1, 0, 0, .null, .int) := by decide +kernel
theorem jF_260_114 : j_F 260 114 = some (.goto 10, 3, 124, 0, .null, .int) := by decide +kernel
theorem jF_260_117 : j_F 260 117 = some (.aload_n 0, 1, 0, 0, .null, .int) := by decide +kernel
theorem jF_260_118 : j_F 260 118 = some (.getfield 97, 3, 12, 40, .null, (.array .long)) := by decide +kernel
theorem jF_260_121 : j_F 260 121 = some (.iload 10, 2, 0, 0, .null, .int) := by decide +kernel
theorem jF_260_123 : j_F 260 123 = some (.laload, 1, 0, 0, .null, .int) := by decide +kernel
theorem jF_260_124 : j_F 260 124 = some (.lstore 11, 2, 0, 0, .null, .int) := by decide +kernel
theorem jF_260_126 : j_F 260 126 = some (.iload 8, 2, 0, 0, .null, .int) := by decide +kernel
theorem jF_260_128 : j_F 260 128 = some (.iconst (-1), 1, 0, 0, .null, .int) := by decide +kernel
theorem jF_260_129 : j_F 260 129 = some (.if_icmp .ne 8, 3, 137, 0, .null, .int) := by decide +kernel
theorem jF_260_132 : j_F 260 132 = some (.lload 11, 2, 0, 0, .null, .int) := by decide +kernel
theorem jF_260_134 : j_F 260 134 = some (.goto 21, 3, 155, 0, .null, .int) := by decide +kernel
theorem jF_260_137 : j_F 260 137 = some (.iload 8, 2, 0, 0, .null, .int) := by decide +kernel
theorem jF_260_139 : j_F 260 139 = some (.bipush 18, 2, 0, 0, .null, .int) := by decide +kernel
theorem jF_260_141 : j_F 260 141 = some (.if_icmp .ne 10, 3, 151, 0, .null, .int) := by decide +kernel
theorem jF_260_144 : j_F 260 144 = some (.lload_n 2, 1, 0, 0, .null, .int) := by decide +kernel
theorem jF_260_145 : j_F 260 145 = some (.lload 11, 2, 0, 0, .null, .int) := by decide +kernel
theorem jF_260_147 : j_F 260 147 = some (.land, 1, 0, 0, .null, .int) := by decide +kernel
theorem jF_260_148 : j_F 260 148 = some (.goto 7, 3, 155, 0, .null, .int) := by decide +kernel
theorem jF_260_151 : j_F 260 151 = some (.lload_n 2, 1, 0, 0, .null, .int) := by decide +kernel
theorem jF_260_152 : j_F 260 152 = some (.lload 11, 2, 0, 0, .null, .int) := by decide +kernel
theorem jF_260_154 : j_F 260 154 = some (.lor, 1, 0, 0, .null, .int) := by decide +kernel
theorem jF_260_155 : j_F 260 155 = some (.lstore_n 2, 1, 0, 0, .null, .int) := by decide +kernel
theorem jF_260_156 : j_F 260 156 = some (.iconst 0, 1, 0, 0, .null, .int) := by decide +kernel
theorem jF_260_157 : j_F 260 157 = some (.istore 7, 2, 0, 0, .null, .int) := by decide +kernel
theorem jF_260_159 : j_F 260 159 = some (.iinc 9 1, 3, 0, 0, .null, .int) := by decide +kernel
theorem jF_260_162 : j_F 260 162 = some (.goto (-145), 3, 17, 0, .null, .int) := by decide +kernel
theorem jF_260_165 : j_F 260 165 = some (.iload 6, 2, 0, 0, .null, .int) := by decide +kernel
theorem jF_260_167 : j_F 260 167 = some (.ifCond .eq 14, 3, 181, 0, .null, .int) := by decide +kernel
theorem jF_260_170 : j_F 260 170 = some (.lload 4, 2, 0, 0, .null, .int) := by decide +kernel
theorem jF_260_172 : j_F 260 172 = some (.lload_n 2, 1, 0, 0, .null, .int) := by decide +kernel
theorem jF_260_173 : j_F 260 173 = some (.ldc2_w 407, 3, 0, 0, (.long (-1)), .int) := by decide +kernel
theorem jF_260_176 : j_F 260 176 = some (.lxor, 1, 0, 0, .null, .int) := by decide +kernel
theorem jF_260_177 : j_F 260 177 = some (.land, 1, 0, 0, .null, .int) := by decide +kernel
theorem jF_260_178 : j_F 260 178 = some (.goto 4, 3, 182, 0, .null, .int) := by decide +kernel
theorem jF_260_181 : j_F 260 181 = some (.lload_n 2, 1, 0, 0, .null, .int) := by decide +kernel
theorem jF_260_182 : j_F 260 182 = some (.lreturn, 1, 0, 0, .null, .int) := by decide +kernel
theorem jF_261_0 : j_F 261 0 = some (.iload_n 1, 1, 0, 0, .null, .int) := by decide +kernel
theorem jF_261_1 : j_F 261 1 = some (.istore_n 2, 1, 0, 0, .null, .int) := by decide +kernel
theorem jF_261_2 : j_F 261 2 = some (.aload_n 0, 1, 0, 0, .null, .int) := by decide +kernel
theorem jF_261_3 : j_F 261 3 = some (.getfield 112, 3, 12, 48, .null, (.array .int)) := by decide +kernel
theorem jF_261_6 : j_F 261 6 = some (.iload_n 2, 1, 0, 0, .null, .int) := by decide +kernel
theorem jF_261_7 : j_F 261 7 = some (.iaload, 1, 0, 0, .null, .int) := by decide +kernel
theorem jF_261_8 : j_F 261 8 = some (.bipush 22, 2, 0, 0, .null, .int) := by decide +kernel
theorem jF_261_10 : j_F 261 10 = some (.if_icmp .eq 9, 3, 19, 0, .null, .int) := by decide +kernel
theorem jF_261_13 : j_F 261 13 = some (.iinc 2 1, 3, 0, 0, .null, .int) := by decide +kernel
theorem jF_261_16 : j_F 261 16 = some (.goto (-14), 3, 2, 0, .null, .int) := by decide +kernel
theorem jF_261_19 : j_F 261 19 = some (.iload_n 2, 1, 0, 0, .null, .int) := by decide +kernel
theorem jF_261_20 : j_F 261 20 = some (.iconst 1, 1, 0, 0, .null, .int) := by decide +kernel
theorem jF_261_21 : j_F 261 21 = some (.iadd, 1, 0, 0, .null, .int) := by decide +kernel
theorem jF_261_22 : j_F 261 22 = some (.ireturn, 1, 0, 0, .null, .int) := by decide +kernel
theorem jF_271_0 : j_F 271 0 = some (.aload_n 0, 1, 0, 0, .null, .int) := by decide +kernel
theorem jF_271_1 : j_F 271 1 = some (.aload_n 0, 1, 0, 0, .null, .int) := by decide +kernel
theorem jF_271_2 : j_F 271 2 = some (.getfield 109, 3, 12, 47, .null, (.array .int)) := by decide +kernel
theorem jF_271_5 : j_F 271 5 = some (.iload_n 1, 1, 0, 0, .null, .int) := by decide +kernel
theorem jF_271_6 : j_F 271 6 = some (.iaload, 1, 0, 0, .null, .int) := by decide +kernel
theorem jF_271_7 : j_F 271 7 = some (.putfield 401, 3, 12, 49, .null, .int) := by decide +kernel
theorem jF_271_10 : j_F 271 10 = some (.iconst 0, 1, 0, 0, .null, .int) := by decide +kernel
theorem jF_271_11 : j_F 271 11 = some (.istore_n 2, 1, 0, 0, .null, .int) := by decide +kernel
theorem jF_271_12 : j_F 271 12 = some (.iload_n 2, 1, 0, 0, .null, .int) := by decide +kernel
theorem jF_271_13 : j_F 271 13 = some (.aload_n 0, 1, 0, 0, .null, .int) := by decide +kernel
theorem jF_271_14 : j_F 271 14 = some (.getfield 401, 3, 12, 49, .null, .int) := by decide +kernel
theorem jF_271_17 : j_F 271 17 = some (.if_icmp .ge 26, 3, 43, 0, .null, .int) := by decide +kernel
theorem jF_271_20 : j_F 271 20 = some (.aload_n 0, 1, 0, 0, .null, .int) := by decide +kernel
theorem jF_271_21 : j_F 271 21 = some (.getfield 112, 3, 12, 48, .null, (.array .int)) := by decide +kernel
theorem jF_271_24 : j_F 271 24 = some (.iload_n 2, 1, 0, 0, .null, .int) := by decide +kernel
theorem jF_271_25 : j_F 271 25 = some (.aload_n 0, 1, 0, 0, .null, .int) := by decide +kernel
theorem jF_271_26 : j_F 271 26 = some (.getfield 106, 3, 12, 46, .null, (.array .int)) := by decide +kernel
theorem jF_271_29 : j_F 271 29 = some (.bipush 64, 2, 0, 0, .null, .int) := by decide +kernel
theorem jF_271_31 : j_F 271 31 = some (.iload_n 1, 1, 0, 0, .null, .int) := by decide +kernel
theorem jF_271_32 : j_F 271 32 = some (.imul, 1, 0, 0, .null, .int) := by decide +kernel
theorem jF_271_33 : j_F 271 33 = some (.iload_n 2, 1, 0, 0, .null, .int) := by decide +kernel
theorem jF_271_34 : j_F 271 34 = some (.iadd, 1, 0, 0, .null, .int) := by decide +kernel
theorem jF_271_35 : j_F 271 35 = some (.iaload, 1, 0, 0, .null, .int) := by decide +kernel
theorem jF_271_36 : j_F 271 36 = some (.iastore, 1, 0, 0, .null, .int) := by decide +kernel
theorem jF_271_37 : j_F 271 37 = some (.iinc 2 1, 3, 0, 0, .null, .int) := by decide +kernel
theorem jF_271_40 : j_F 271 40 = some (.goto (-28), 3, 12, 0, .null, .int) := by decide +kernel
theorem jF_271_43 : j_F 271 43 = some (.return_, 1, 0, 0, .null, .int) := by decide +kernel
