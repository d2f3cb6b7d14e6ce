/-! CODE. -/
theorem jF_241_0 : j_F 241 0 = some (.iconst 0, 1, 0, 0, .null, .int) := by decide +kernel
theorem jF_241_1 : j_F 241 1 = some (.istore_n 1, 1, 0, 0, .null, .int) := by decide +kernel
theorem jF_241_2 : j_F 241 2 = some (.iload_n 1, 1, 0, 0, .null, .int) := by decide +kernel
theorem jF_241_3 : j_F 241 3 = some (.bipush 18, 2, 0, 0, .null, .int) := by decide +kernel
theorem jF_241_5 : j_F 241 5 = some (.if_icmp .ge 24, 3, 29, 0, .null, .int) := by decide +kernel
theorem jF_241_8 : j_F 241 8 = some (.aload_n 0, 1, 0, 0, .null, .int) := by decide +kernel
theorem jF_241_9 : j_F 241 9 = some (.getfield 75, 3, 12, 29, .null, (.array .long)) := by decide +kernel
theorem jF_241_12 : j_F 241 12 = some (.bipush 18, 2, 0, 0, .null, .int) := by decide +kernel
theorem jF_241_14 : j_F 241 14 = some (.iload_n 1, 1, 0, 0, .null, .int) := by decide +kernel
theorem jF_241_15 : j_F 241 15 = some (.iadd, 1, 0, 0, .null, .int) := by decide +kernel
theorem jF_241_16 : j_F 241 16 = some (.aload_n 0, 1, 0, 0, .null, .int) := by decide +kernel
theorem jF_241_17 : j_F 241 17 = some (.getfield 75, 3, 12, 29, .null, (.array .long)) := by decide +kernel
theorem jF_241_20 : j_F 241 20 = some (.iload_n 1, 1, 0, 0, .null, .int) := by decide +kernel
theorem jF_241_21 : j_F 241 21 = some (.laload, 1, 0, 0, .null, .int) := by decide +kernel
theorem jF_241_22 : j_F 241 22 = some (.lastore, 1, 0, 0, .null, .int) := by decide +kernel
theorem jF_241_23 : j_F 241 23 = some (.iinc 1 1, 3, 0, 0, .null, .int) := by decide +kernel
theorem jF_241_26 : j_F 241 26 = some (.goto (-24), 3, 2, 0, .null, .int) := by decide +kernel
theorem jF_241_29 : j_F 241 29 = some (.iconst 0, 1, 0, 0, .null, .int) := by decide +kernel
theorem jF_241_30 : j_F 241 30 = some (.istore_n 1, 1, 0, 0, .null, .int) := by decide +kernel
theorem jF_241_31 : j_F 241 31 = some (.iload_n 1, 1, 0, 0, .null, .int) := by decide +kernel
theorem jF_241_32 : j_F 241 32 = some (.bipush 6, 2, 0, 0, .null, .int) := by decide +kernel
theorem jF_241_34 : j_F 241 34 = some (.if_icmp .ge 24, 3, 58, 0, .null, .int) := by decide +kernel
theorem jF_241_37 : j_F 241 37 = some (.aload_n 0, 1, 0, 0, .null, .int) := by decide +kernel
theorem jF_241_38 : j_F 241 38 = some (.getfield 79, 3, 12, 30, .null, (.array .int)) := by decide +kernel
theorem jF_241_41 : j_F 241 41 = some (.bipush 6, 2, 0, 0, .null, .int) := by decide +kernel
theorem jF_241_43 : j_F 241 43 = some (.iload_n 1, 1, 0, 0, .null, .int) := by decide +kernel
theorem jF_241_44 : j_F 241 44 = some (.iadd, 1, 0, 0, .null, .int) := by decide +kernel
theorem jF_241_45 : j_F 241 45 = some (.aload_n 0, 1, 0, 0, .null, .int) := by decide +kernel
theorem jF_241_46 : j_F 241 46 = some (.getfield 79, 3, 12, 30, .null, (.array .int)) := by decide +kernel
theorem jF_241_49 : j_F 241 49 = some (.iload_n 1, 1, 0, 0, .null, .int) := by decide +kernel
theorem jF_241_50 : j_F 241 50 = some (.iaload, 1, 0, 0, .null, .int) := by decide +kernel
theorem jF_241_51 : j_F 241 51 = some (.iastore, 1, 0, 0, .null, .int) := by decide +kernel
theorem jF_241_52 : j_F 241 52 = some (.iinc 1 1, 3, 0, 0, .null, .int) := by decide +kernel
theorem jF_241_55 : j_F 241 55 = some (.goto (-24), 3, 31, 0, .null, .int) := by decide +kernel
theorem jF_241_58 : j_F 241 58 = some (.iconst 0, 1, 0, 0, .null, .int) := by decide +kernel
theorem jF_241_59 : j_F 241 59 = some (.istore_n 1, 1, 0, 0, .null, .int) := by decide +kernel
theorem jF_241_60 : j_F 241 60 = some (.iload_n 1, 1, 0, 0, .null, .int) := by decide +kernel
theorem jF_241_61 : j_F 241 61 = some (.iconst 5, 1, 0, 0, .null, .int) := by decide +kernel
theorem jF_241_62 : j_F 241 62 = some (.if_icmp .ge 37, 3, 99, 0, .null, .int) := by decide +kernel
theorem jF_241_65 : j_F 241 65 = some (.aload_n 0, 1, 0, 0, .null, .int) := by decide +kernel
theorem jF_241_66 : j_F 241 66 = some (.getfield 82, 3, 12, 31, .null, (.array .long)) := by decide +kernel
theorem jF_241_69 : j_F 241 69 = some (.iconst 5, 1, 0, 0, .null, .int) := by decide +kernel
theorem jF_241_70 : j_F 241 70 = some (.iload_n 1, 1, 0, 0, .null, .int) := by decide +kernel
theorem jF_241_71 : j_F 241 71 = some (.iadd, 1, 0, 0, .null, .int) := by decide +kernel
theorem jF_241_72 : j_F 241 72 = some (.aload_n 0, 1, 0, 0, .null, .int) := by decide +kernel
theorem jF_241_73 : j_F 241 73 = some (.getfield 82, 3, 12, 31, .null, (.array .long)) := by decide +kernel
theorem jF_241_76 : j_F 241 76 = some (.iload_n 1, 1, 0, 0, .null, .int) := by decide +kernel
theorem jF_241_77 : j_F 241 77 = some (.laload, 1, 0, 0, .null, .int) := by decide +kernel
theorem jF_241_78 : j_F 241 78 = some (.lastore, 1, 0, 0, .null, .int) := by decide +kernel
theorem jF_241_79 : j_F 241 79 = some (.aload_n 0, 1, 0, 0, .null, .int) := by decide +kernel
theorem jF_241_80 : j_F 241 80 = some (.getfield 85, 3, 12, 32, .null, (.array .int)) := by decide +kernel
theorem jF_241_83 : j_F 241 83 = some (.iconst 5, 1, 0, 0, .null, .int) := by decide +kernel
theorem jF_241_84 : j_F 241 84 = some (.iload_n 1, 1, 0, 0, .null, .int) := by decide +kernel
theorem jF_241_85 : j_F 241 85 = some (.iadd, 1, 0, 0, .null, .int) := by decide +kernel
theorem jF_241_86 : j_F 241 86 = some (.aload_n 0, 1, 0, 0, .null, .int) := by decide +kernel
theorem jF_241_87 : j_F 241 87 = some (.getfield 85, 3, 12, 32, .null, (.array .int)) := by decide +kernel
theorem jF_241_90 : j_F 241 90 = some (.iload_n 1, 1, 0, 0, .null, .int) := by decide +kernel
theorem jF_241_91 : j_F 241 91 = some (.iaload, 1, 0, 0, .null, .int) := by decide +kernel
theorem jF_241_92 : j_F 241 92 = some (.iastore, 1, 0, 0, .null, .int) := by decide +kernel
theorem jF_241_93 : j_F 241 93 = some (.iinc 1 1, 3, 0, 0, .null, .int) := by decide +kernel
theorem jF_241_96 : j_F 241 96 = some (.goto (-36), 3, 60, 0, .null, .int) := by decide +kernel
theorem jF_241_99 : j_F 241 99 = some (.aload_n 0, 1, 0, 0, .null, .int) := by decide +kernel
theorem jF_241_100 : j_F 241 100 = some (.aload_n 0, 1, 0, 0, .null, .int) := by decide +kernel
theorem jF_241_101 : j_F 241 101 = some (.getfield 267, 3, 12, 33, .null, .int) := by decide +kernel
theorem jF_241_104 : j_F 241 104 = some (.putfield 340, 3, 12, 34, .null, .int) := by decide +kernel
theorem jF_241_107 : j_F 241 107 = some (.iconst 0, 1, 0, 0, .null, .int) := by decide +kernel
theorem jF_241_108 : j_F 241 108 = some (.istore_n 1, 1, 0, 0, .null, .int) := by decide +kernel
theorem jF_241_109 : j_F 241 109 = some (.iload_n 1, 1, 0, 0, .null, .int) := by decide +kernel
theorem jF_241_110 : j_F 241 110 = some (.sipush 204, 3, 0, 0, .null, .int) := by decide +kernel
theorem jF_241_113 : j_F 241 113 = some (.if_icmp .ge 25, 3, 138, 0, .null, .int) := by decide +kernel
theorem jF_241_116 : j_F 241 116 = some (.aload_n 0, 1, 0, 0, .null, .int) := by decide +kernel
theorem jF_241_117 : j_F 241 117 = some (.getfield 88, 3, 12, 35, .null, (.array .int)) := by decide +kernel
theorem jF_241_120 : j_F 241 120 = some (.sipush 204, 3, 0, 0, .null, .int) := by decide +kernel
theorem jF_241_123 : j_F 241 123 = some (.iload_n 1, 1, 0, 0, .null, .int) := by decide +kernel
theorem jF_241_124 : j_F 241 124 = some (.iadd, 1, 0, 0, .null, .int) := by decide +kernel
theorem jF_241_125 : j_F 241 125 = some (.aload_n 0, 1, 0, 0, .null, .int) := by decide +kernel
theorem jF_241_126 : j_F 241 126 = some (.getfield 88, 3, 12, 35, .null, (.array .int)) := by decide +kernel
theorem jF_241_129 : j_F 241 129 = some (.iload_n 1, 1, 0, 0, .null, .int) := by decide +kernel
theorem jF_241_130 : j_F 241 130 = some (.iaload, 1, 0, 0, .null, .int) := by decide +kernel
theorem jF_241_131 : j_F 241 131 = some (.iastore, 1, 0, 0, .null, .int) := by decide +kernel
theorem jF_241_132 : j_F 241 132 = some (.iinc 1 1, 3, 0, 0, .null, .int) := by decide +kernel
theorem jF_241_135 : j_F 241 135 = some (.goto (-26), 3, 109, 0, .null, .int) := by decide +kernel
theorem jF_241_138 : j_F 241 138 = some (.iconst 0, 1, 0, 0, .null, .int) := by decide +kernel
theorem jF_241_139 : j_F 241 139 = some (.istore_n 1, 1, 0, 0, .null, .int) := by decide +kernel
theorem jF_241_140 : j_F 241 140 = some (.iload_n 1, 1, 0, 0, .null, .int) := by decide +kernel
theorem jF_241_141 : j_F 241 141 = some (.iconst 3, 1, 0, 0, .null, .int) := by decide +kernel
theorem jF_241_142 : j_F 241 142 = some (.if_icmp .ge 23, 3, 165, 0, .null, .int) := by decide +kernel
theorem jF_241_145 : j_F 241 145 = some (.aload_n 0, 1, 0, 0, .null, .int) := by decide +kernel
theorem jF_241_146 : j_F 241 146 = some (.getfield 91, 3, 12, 36, .null, (.array .int)) := by decide +kernel
theorem jF_241_149 : j_F 241 149 = some (.iconst 3, 1, 0, 0, .null, .int) := by decide +kernel
theorem jF_241_150 : j_F 241 150 = some (.iload_n 1, 1, 0, 0, .null, .int) := by decide +kernel
theorem jF_241_151 : j_F 241 151 = some (.iadd, 1, 0, 0, .null, .int) := by decide +kernel
theorem jF_241_152 : j_F 241 152 = some (.aload_n 0, 1, 0, 0, .null, .int) := by decide +kernel
theorem jF_241_153 : j_F 241 153 = some (.getfield 91, 3, 12, 36, .null, (.array .int)) := by decide +kernel
theorem jF_241_156 : j_F 241 156 = some (.iload_n 1, 1, 0, 0, .null, .int) := by decide +kernel
theorem jF_241_157 : j_F 241 157 = some (.iaload, 1, 0, 0, .null, .int) := by decide +kernel
theorem jF_241_158 : j_F 241 158 = some (.iastore, 1, 0, 0, .null, .int) := by decide +kernel
theorem jF_241_159 : j_F 241 159 = some (.iinc 1 1, 3, 0, 0, .null, .int) := by decide +kernel
theorem jF_241_162 : j_F 241 162 = some (.goto (-22), 3, 140, 0, .null, .int) := by decide +kernel
theorem jF_241_165 : j_F 241 165 = some (.aload_n 0, 1, 0, 0, .null, .int) := by decide +kernel
theorem jF_241_166 : j_F 241 166 = some (.aload_n 0, 1, 0, 0, .null, .int) := by decide +kernel
theorem jF_241_167 : j_F 241 167 = some (.getfield 312, 3, 12, 37, .null, .int) := by decide +kernel
theorem jF_241_170 : j_F 241 170 = some (.putfield 94, 3, 12, 38, .null, .int) := by decide +kernel
theorem jF_241_173 : j_F 241 173 = some (.aload_n 0, 1, 0, 0, .null, .int) := by decide +kernel
theorem jF_241_174 : j_F 241 174 = some (.getfield 109, 3, 12, 47, .null, (.array .int)) := by decide +kernel
theorem jF_241_177 : j_F 241 177 = some (.iconst 0, 1, 0, 0, .null, .int) := by decide +kernel
theorem jF_241_178 : j_F 241 178 = some (.iconst 0, 1, 0, 0, .null, .int) := by decide +kernel
theorem jF_241_179 : j_F 241 179 = some (.iastore, 1, 0, 0, .null, .int) := by decide +kernel
theorem jF_241_180 : j_F 241 180 = some (.aload_n 0, 1, 0, 0, .null, .int) := by decide +kernel
theorem jF_241_181 : j_F 241 181 = some (.getfield 109, 3, 12, 47, .null, (.array .int)) := by decide +kernel
theorem jF_241_184 : j_F 241 184 = some (.iconst 1, 1, 0, 0, .null, .int) := by decide +kernel
theorem jF_241_185 : j_F 241 185 = some (.iconst 0, 1, 0, 0, .null, .int) := by decide +kernel
theorem jF_241_186 : j_F 241 186 = some (.iastore, 1, 0, 0, .null, .int) := by decide +kernel
theorem jF_241_187 : j_F 241 187 = some (.aload_n 0, 1, 0, 0, .null, .int) := by decide +kernel
theorem jF_241_188 : j_F 241 188 = some (.iconst 0, 1, 0, 0, .null, .int) := by decide +kernel
theorem jF_241_189 : j_F 241 189 = some (.putfield 343, 3, 12, 52, .null, .int) := by decide +kernel
theorem jF_241_192 : j_F 241 192 = some (.aload_n 0, 1, 0, 0, .null, .int) := by decide +kernel
theorem jF_241_193 : j_F 241 193 = some (.invokevirtual 346, 3, 242, 1, .null, .int) := by decide +kernel
theorem jF_241_196 : j_F 241 196 = some (.aload_n 0, 1, 0, 0, .null, .int) := by decide +kernel
theorem jF_241_197 : j_F 241 197 = some (.invokevirtual 349, 3, 247, 1, .null, .int) := by decide +kernel
theorem jF_241_200 : j_F 241 200 = some (.return_, 1, 0, 0, .null, .int) := by decide +kernel
