/-! CODE. -/
theorem jF_324_0 : j_F 324 0 = some (.aload_n 0, 1, 0, 0, .null, .int) := by decide +kernel
theorem jF_324_1 : j_F 324 1 = some (.aload_n 0, 1, 0, 0, .null, .int) := by decide +kernel
theorem jF_324_2 : j_F 324 2 = some (.getfield 209, 3, 12, 1, .null, .int) := by decide +kernel
theorem jF_324_5 : j_F 324 5 = some (.putfield 221, 3, 12, 3, .null, .int) := by decide +kernel
theorem jF_324_8 : j_F 324 8 = some (.aload_n 0, 1, 0, 0, .null, .int) := by decide +kernel
theorem jF_324_9 : j_F 324 9 = some (.iconst 0, 1, 0, 0, .null, .int) := by decide +kernel
theorem jF_324_10 : j_F 324 10 = some (.putfield 209, 3, 12, 1, .null, .int) := by decide +kernel
theorem jF_324_13 : j_F 324 13 = some (.aload_n 0, 1, 0, 0, .null, .int) := by decide +kernel
theorem jF_324_14 : j_F 324 14 = some (.iconst 0, 1, 0, 0, .null, .int) := by decide +kernel
theorem jF_324_15 : j_F 324 15 = some (.putfield 218, 3, 12, 2, .null, .int) := by decide +kernel
theorem jF_324_18 : j_F 324 18 = some (.aload_n 0, 1, 0, 0, .null, .int) := by decide +kernel
theorem jF_324_19 : j_F 324 19 = some (.iconst (-1), 1, 0, 0, .null, .int) := by decide +kernel
theorem jF_324_20 : j_F 324 20 = some (.putfield 232, 3, 12, 4, .null, .int) := by decide +kernel
theorem jF_324_23 : j_F 324 23 = some (.aload_n 0, 1, 0, 0, .null, .int) := by decide +kernel
theorem jF_324_24 : j_F 324 24 = some (.iconst 0, 1, 0, 0, .null, .int) := by decide +kernel
theorem jF_324_25 : j_F 324 25 = some (.putfield 212, 3, 12, 5, .null, .int) := by decide +kernel
theorem jF_324_28 : j_F 324 28 = some (.aload_n 0, 1, 0, 0, .null, .int) := by decide +kernel
theorem jF_324_29 : j_F 324 29 = some (.iconst (-1), 1, 0, 0, .null, .int) := by decide +kernel
theorem jF_324_30 : j_F 324 30 = some (.putfield 215, 3, 12, 6, .null, .int) := by decide +kernel
theorem jF_324_33 : j_F 324 33 = some (.aload_n 0, 1, 0, 0, .null, .int) := by decide +kernel
theorem jF_324_34 : j_F 324 34 = some (.iconst 0, 1, 0, 0, .null, .int) := by decide +kernel
theorem jF_324_35 : j_F 324 35 = some (.putfield 573, 3, 12, 87, .null, .int) := by decide +kernel
theorem jF_324_38 : j_F 324 38 = some (.aload_n 0, 1, 0, 0, .null, .int) := by decide +kernel
theorem jF_324_39 : j_F 324 39 = some (.iconst 0, 1, 0, 0, .null, .int) := by decide +kernel
theorem jF_324_40 : j_F 324 40 = some (.putfield 579, 3, 12, 89, .null, .int) := by decide +kernel
theorem jF_324_43 : j_F 324 43 = some (.aload_n 0, 1, 0, 0, .null, .int) := by decide +kernel
theorem jF_324_44 : j_F 324 44 = some (.iconst 0, 1, 0, 0, .null, .int) := by decide +kernel
theorem jF_324_45 : j_F 324 45 = some (.putfield 576, 3, 12, 90, .null, .int) := by decide +kernel
theorem jF_324_48 : j_F 324 48 = some (.aload_n 0, 1, 0, 0, .null, .int) := by decide +kernel
theorem jF_324_49 : j_F 324 49 = some (.iconst 0, 1, 0, 0, .null, .int) := by decide +kernel
theorem jF_324_50 : j_F 324 50 = some (.putfield 585, 3, 12, 91, .null, .int) := by decide +kernel
theorem jF_324_53 : j_F 324 53 = some (.aload_n 0, 1, 0, 0, .null, .int) := by decide +kernel
theorem jF_324_54 : j_F 324 54 = some (.invokevirtual 679, 3, 325, 1, .null, .int) := by decide +kernel
theorem jF_324_57 : j_F 324 57 = some (.istore_n 1, 1, 0, 0, .null, .int) := by decide +kernel
theorem jF_324_58 : j_F 324 58 = some (.aload_n 0, 1, 0, 0, .null, .int) := by decide +kernel
theorem jF_324_59 : j_F 324 59 = some (.getfield 212, 3, 12, 5, .null, .int) := by decide +kernel
theorem jF_324_62 : j_F 324 62 = some (.ifCond .ne 15, 3, 77, 0, .null, .int) := by decide +kernel
theorem jF_324_65 : j_F 324 65 = some (.iload_n 1, 1, 0, 0, .null, .int) := by decide +kernel
theorem jF_324_66 : j_F 324 66 = some (.iconst 3, 1, 0, 0, .null, .int) := by decide +kernel
theorem jF_324_67 : j_F 324 67 = some (.if_icmp .ge 10, 3, 77, 0, .null, .int) := by decide +kernel
theorem jF_324_70 : j_F 324 70 = some (.aload_n 0, 1, 0, 0, .null, .int) := by decide +kernel
theorem jF_324_71 : j_F 324 71 = some (.invokevirtual 682, 3, 326, 1, .null, .int) := by decide +kernel
theorem jF_324_74 : j_F 324 74 = some (.goto 14, 3, 88, 0, .null, .int) := by decide +kernel
theorem jF_324_77 : j_F 324 77 = some (.aload_n 0, 1, 0, 0, .null, .int) := by decide +kernel
theorem jF_324_78 : j_F 324 78 = some (.getfield 212, 3, 12, 5, .null, .int) := by decide +kernel
theorem jF_324_81 : j_F 324 81 = some (.ifCond .ne 7, 3, 88, 0, .null, .int) := by decide +kernel
theorem jF_324_84 : j_F 324 84 = some (.aload_n 0, 1, 0, 0, .null, .int) := by decide +kernel
theorem jF_324_85 : j_F 324 85 = some (.invokevirtual 624, 3, 330, 1, .null, .int) := by decide +kernel
theorem jF_324_88 : j_F 324 88 = some (.aload_n 0, 1, 0, 0, .null, .int) := by decide +kernel
theorem jF_324_89 : j_F 324 89 = some (.getfield 212, 3, 12, 5, .null, .int) := by decide +kernel
theorem jF_324_92 : j_F 324 92 = some (.ifCond .ne 20, 3, 112, 0, .null, .int) := by decide +kernel
theorem jF_324_95 : j_F 324 95 = some (.aload_n 0, 1, 0, 0, .null, .int) := by decide +kernel
theorem jF_324_96 : j_F 324 96 = some (.invokevirtual 224, 3, 216, 1, .null, .int) := by decide +kernel
theorem jF_324_99 : j_F 324 99 = some (.iconst (-1), 1, 0, 0, .null, .int) := by decide +kernel
theorem jF_324_100 : j_F 324 100 = some (.if_icmp .eq 12, 3, 112, 0, .null, .int) := by decide +kernel
theorem jF_324_103 : j_F 324 103 = some (.aload_n 0, 1, 0, 0, .null, .int) := by decide +kernel
theorem jF_324_104 : j_F 324 104 = some (.iconst 1, 1, 0, 0, .null, .int) := by decide +kernel
theorem jF_324_105 : j_F 324 105 = some (.aload_n 0, 1, 0, 0, .null, .int) := by decide +kernel
theorem jF_324_106 : j_F 324 106 = some (.getfield 218, 3, 12, 2, .null, .int) := by decide +kernel
theorem jF_324_109 : j_F 324 109 = some (.invokevirtual 242, 3, 218, 3, .null, .int) := by decide +kernel
theorem jF_324_112 : j_F 324 112 = some (.aload_n 0, 1, 0, 0, .null, .int) := by decide +kernel
theorem jF_324_113 : j_F 324 113 = some (.aload_n 0, 1, 0, 0, .null, .int) := by decide +kernel
theorem jF_324_114 : j_F 324 114 = some (.getfield 212, 3, 12, 5, .null, .int) := by decide +kernel
theorem jF_324_117 : j_F 324 117 = some (.putfield 325, 3, 12, 7, .null, .int) := by decide +kernel
theorem jF_324_120 : j_F 324 120 = some (.aload_n 0, 1, 0, 0, .null, .int) := by decide +kernel
theorem jF_324_121 : j_F 324 121 = some (.aload_n 0, 1, 0, 0, .null, .int) := by decide +kernel
theorem jF_324_122 : j_F 324 122 = some (.getfield 215, 3, 12, 6, .null, .int) := by decide +kernel
theorem jF_324_125 : j_F 324 125 = some (.putfield 13, 3, 12, 8, .null, .int) := by decide +kernel
theorem jF_324_128 : j_F 324 128 = some (.aload_n 0, 1, 0, 0, .null, .int) := by decide +kernel
theorem jF_324_129 : j_F 324 129 = some (.getfield 212, 3, 12, 5, .null, .int) := by decide +kernel
theorem jF_324_132 : j_F 324 132 = some (.ifCond .eq 7, 3, 139, 0, .null, .int) := by decide +kernel
theorem jF_324_135 : j_F 324 135 = some (.ldc2_w 685, 3, 0, 0, (.long (-1000000000000000)), .int) := by decide +kernel
theorem jF_324_138 : j_F 324 138 = some (.lreturn, 1, 0, 0, .null, .int) := by decide +kernel
theorem jF_324_139 : j_F 324 139 = some (.aload_n 0, 1, 0, 0, .null, .int) := by decide +kernel
theorem jF_324_140 : j_F 324 140 = some (.iload_n 1, 1, 0, 0, .null, .int) := by decide +kernel
theorem jF_324_141 : j_F 324 141 = some (.iconst 2, 1, 0, 0, .null, .int) := by decide +kernel
theorem jF_324_142 : j_F 324 142 = some (.if_icmp .ge 9, 3, 151, 0, .null, .int) := by decide +kernel
theorem jF_324_145 : j_F 324 145 = some (.ldc2_w 407, 3, 0, 0, (.long (-1)), .int) := by decide +kernel
theorem jF_324_148 : j_F 324 148 = some (.goto 4, 3, 152, 0, .null, .int) := by decide +kernel
theorem jF_324_151 : j_F 324 151 = some (.lconst 0, 1, 0, 0, .null, .int) := by decide +kernel
theorem jF_324_152 : j_F 324 152 = some (.putfield 672, 3, 12, 94, .null, .long) := by decide +kernel
theorem jF_324_155 : j_F 324 155 = some (.aload_n 0, 1, 0, 0, .null, .int) := by decide +kernel
theorem jF_324_156 : j_F 324 156 = some (.iconst 1, 1, 0, 0, .null, .int) := by decide +kernel
theorem jF_324_157 : j_F 324 157 = some (.putfield 675, 3, 12, 95, .null, .boolean) := by decide +kernel
theorem jF_324_160 : j_F 324 160 = some (.iconst 0, 1, 0, 0, .null, .int) := by decide +kernel
theorem jF_324_161 : j_F 324 161 = some (.istore_n 2, 1, 0, 0, .null, .int) := by decide +kernel
theorem jF_324_162 : j_F 324 162 = some (.iload_n 2, 1, 0, 0, .null, .int) := by decide +kernel
theorem jF_324_163 : j_F 324 163 = some (.aload_n 0, 1, 0, 0, .null, .int) := by decide +kernel
theorem jF_324_164 : j_F 324 164 = some (.invokevirtual 358, 3, 243, 1, .null, .int) := by decide +kernel
theorem jF_324_167 : j_F 324 167 = some (.if_icmp .ge 20, 3, 187, 0, .null, .int) := by decide +kernel
theorem jF_324_170 : j_F 324 170 = some (.aload_n 0, 1, 0, 0, .null, .int) := by decide +kernel
theorem jF_324_171 : j_F 324 171 = some (.iload_n 1, 1, 0, 0, .null, .int) := by decide +kernel
theorem jF_324_172 : j_F 324 172 = some (.aload_n 0, 1, 0, 0, .null, .int) := by decide +kernel
theorem jF_324_173 : j_F 324 173 = some (.iload_n 2, 1, 0, 0, .null, .int) := by decide +kernel
theorem jF_324_174 : j_F 324 174 = some (.invokevirtual 687, 3, 345, 2, .null, .int) := by decide +kernel
theorem jF_324_177 : j_F 324 177 = some (.iload_n 2, 1, 0, 0, .null, .int) := by decide +kernel
theorem jF_324_178 : j_F 324 178 = some (.invokevirtual 690, 3, 353, 4, .null, .int) := by decide +kernel
theorem jF_324_181 : j_F 324 181 = some (.iinc 2 1, 3, 0, 0, .null, .int) := by decide +kernel
theorem jF_324_184 : j_F 324 184 = some (.goto (-22), 3, 162, 0, .null, .int) := by decide +kernel
theorem jF_324_187 : j_F 324 187 = some (.aload_n 0, 1, 0, 0, .null, .int) := by decide +kernel
theorem jF_324_188 : j_F 324 188 = some (.getfield 672, 3, 12, 94, .null, .long) := by decide +kernel
theorem jF_324_191 : j_F 324 191 = some (.lreturn, 1, 0, 0, .null, .int) := by decide +kernel
theorem jF_325_0 : j_F 325 0 = some (.aload_n 0, 1, 0, 0, .null, .int) := by decide +kernel
theorem jF_325_1 : j_F 325 1 = some (.aload_n 0, 1, 0, 0, .null, .int) := by decide +kernel
theorem jF_325_2 : j_F 325 2 = some (.getfield 140, 3, 12, 67, .null, (.array .char)) := by decide +kernel
theorem jF_325_5 : j_F 325 5 = some (.invokevirtual 239, 3, 219, 2, .null, .int) := by decide +kernel
theorem jF_325_8 : j_F 325 8 = some (.ifCond .eq 7, 3, 15, 0, .null, .int) := by decide +kernel
theorem jF_325_11 : j_F 325 11 = some (.iconst 0, 1, 0, 0, .null, .int) := by decide +kernel
theorem jF_325_12 : j_F 325 12 = some (.goto 64, 3, 76, 0, .null, .int) := by decide +kernel
theorem jF_325_15 : j_F 325 15 = some (.aload_n 0, 1, 0, 0, .null, .int) := by decide +kernel
theorem jF_325_16 : j_F 325 16 = some (.aload_n 0, 1, 0, 0, .null, .int) := by decide +kernel
theorem jF_325_17 : j_F 325 17 = some (.getfield 143, 3, 12, 68, .null, (.array .char)) := by decide +kernel
theorem jF_325_20 : j_F 325 20 = some (.invokevirtual 239, 3, 219, 2, .null, .int) := by decide +kernel
theorem jF_325_23 : j_F 325 23 = some (.ifCond .eq 7, 3, 30, 0, .null, .int) := by decide +kernel
theorem jF_325_26 : j_F 325 26 = some (.iconst 1, 1, 0, 0, .null, .int) := by decide +kernel
theorem jF_325_27 : j_F 325 27 = some (.goto 49, 3, 76, 0, .null, .int) := by decide +kernel
theorem jF_325_30 : j_F 325 30 = some (.aload_n 0, 1, 0, 0, .null, .int) := by decide +kernel
theorem jF_325_31 : j_F 325 31 = some (.aload_n 0, 1, 0, 0, .null, .int) := by decide +kernel
theorem jF_325_32 : j_F 325 32 = some (.getfield 146, 3, 12, 69, .null, (.array .char)) := by decide +kernel
theorem jF_325_35 : j_F 325 35 = some (.invokevirtual 239, 3, 219, 2, .null, .int) := by decide +kernel
theorem jF_325_38 : j_F 325 38 = some (.ifCond .eq 7, 3, 45, 0, .null, .int) := by decide +kernel
theorem jF_325_41 : j_F 325 41 = some (.iconst 2, 1, 0, 0, .null, .int) := by decide +kernel
theorem jF_325_42 : j_F 325 42 = some (.goto 34, 3, 76, 0, .null, .int) := by decide +kernel
theorem jF_325_45 : j_F 325 45 = some (.aload_n 0, 1, 0, 0, .null, .int) := by decide +kernel
theorem jF_325_46 : j_F 325 46 = some (.aload_n 0, 1, 0, 0, .null, .int) := by decide +kernel
theorem jF_325_47 : j_F 325 47 = some (.getfield 149, 3, 12, 70, .null, (.array .char)) := by decide +kernel
theorem jF_325_50 : j_F 325 50 = some (.invokevirtual 239, 3, 219, 2, .null, .int) := by decide +kernel
theorem jF_325_53 : j_F 325 53 = some (.ifCond .eq 7, 3, 60, 0, .null, .int) := by decide +kernel
theorem jF_325_56 : j_F 325 56 = some (.iconst 3, 1, 0, 0, .null, .int) := by decide +kernel
theorem jF_325_57 : j_F 325 57 = some (.goto 19, 3, 76, 0, .null, .int) := by decide +kernel
theorem jF_325_60 : j_F 325 60 = some (.aload_n 0, 1, 0, 0, .null, .int) := by decide +kernel
theorem jF_325_61 : j_F 325 61 = some (.aload_n 0, 1, 0, 0, .null, .int) := by decide +kernel
theorem jF_325_62 : j_F 325 62 = some (.getfield 152, 3, 12, 71, .null, (.array .char)) := by decide +kernel
theorem jF_325_65 : j_F 325 65 = some (.invokevirtual 239, 3, 219, 2, .null, .int) := by decide +kernel
theorem jF_325_68 : j_F 325 68 = some (.ifCond .eq 7, 3, 75, 0, .null, .int) := by decide +kernel
theorem jF_325_71 : j_F 325 71 = some (.iconst 4, 1, 0, 0, .null, .int) := by decide +kernel
theorem jF_325_72 : j_F 325 72 = some (.goto 4, 3, 76, 0, .null, .int) := by decide +kernel
theorem jF_325_75 : j_F 325 75 = some (.iconst 5, 1, 0, 0, .null, .int) := by decide +kernel
theorem jF_325_76 : j_F 325 76 = some (.istore_n 1, 1, 0, 0, .null, .int) := by decide +kernel
theorem jF_325_77 : j_F 325 77 = some (.iload_n 1, 1, 0, 0, .null, .int) := by decide +kernel
theorem jF_325_78 : j_F 325 78 = some (.iconst 5, 1, 0, 0, .null, .int) := by decide +kernel
theorem jF_325_79 : j_F 325 79 = some (.if_icmp .ne 11, 3, 90, 0, .null, .int) := by decide +kernel
theorem jF_325_82 : j_F 325 82 = some (.aload_n 0, 1, 0, 0, .null, .int) := by decide +kernel
theorem jF_325_83 : j_F 325 83 = some (.aload_n 0, 1, 0, 0, .null, .int) := by decide +kernel
theorem jF_325_84 : j_F 325 84 = some (.getfield 155, 3, 12, 72, .null, (.array .char)) := by decide +kernel
theorem jF_325_87 : j_F 325 87 = some (.invokevirtual 288, 3, 234, 2, .null, .int) := by decide +kernel
theorem jF_325_90 : j_F 325 90 = some (.iload_n 1, 1, 0, 0, .null, .int) := by decide +kernel
theorem jF_325_91 : j_F 325 91 = some (.ireturn, 1, 0, 0, .null, .int) := by decide +kernel
theorem jF_345_0 : j_F 345 0 = some (.aload_n 0, 1, 0, 0, .null, .int) := by decide +kernel
theorem jF_345_1 : j_F 345 1 = some (.iconst 0, 1, 0, 0, .null, .int) := by decide +kernel
theorem jF_345_2 : j_F 345 2 = some (.putfield 643, 3, 12, 93, .null, .int) := by decide +kernel
theorem jF_345_5 : j_F 345 5 = some (.iconst 0, 1, 0, 0, .null, .int) := by decide +kernel
theorem jF_345_6 : j_F 345 6 = some (.istore_n 2, 1, 0, 0, .null, .int) := by decide +kernel
theorem jF_345_7 : j_F 345 7 = some (.iload_n 2, 1, 0, 0, .null, .int) := by decide +kernel
theorem jF_345_8 : j_F 345 8 = some (.aload_n 0, 1, 0, 0, .null, .int) := by decide +kernel
theorem jF_345_9 : j_F 345 9 = some (.getfield 573, 3, 12, 87, .null, .int) := by decide +kernel
theorem jF_345_12 : j_F 345 12 = some (.if_icmp .ge 156, 3, 168, 0, .null, .int) := by decide +kernel
theorem jF_345_15 : j_F 345 15 = some (.aload_n 0, 1, 0, 0, .null, .int) := by decide +kernel
theorem jF_345_16 : j_F 345 16 = some (.getfield 197, 3, 12, 86, .null, (.array .int)) := by decide +kernel
theorem jF_345_19 : j_F 345 19 = some (.iload_n 2, 1, 0, 0, .null, .int) := by decide +kernel
theorem jF_345_20 : j_F 345 20 = some (.iaload, 1, 0, 0, .null, .int) := by decide +kernel
theorem jF_345_21 : j_F 345 21 = some (.istore_n 3, 1, 0, 0, .null, .int) := by decide +kernel
theorem jF_345_22 : j_F 345 22 = some (.iload_n 3, 1, 0, 0, .null, .int) := by decide +kernel
theorem jF_345_23 : j_F 345 23 = some (.sipush 1000, 3, 0, 0, .null, .int) := by decide +kernel
theorem jF_345_26 : j_F 345 26 = some (.if_icmp .lt 16, 3, 42, 0, .null, .int) := by decide +kernel
theorem jF_345_29 : j_F 345 29 = some (.aload_n 0, 1, 0, 0, .null, .int) := by decide +kernel
theorem jF_345_30 : j_F 345 30 = some (.iload_n 3, 1, 0, 0, .null, .int) := by decide +kernel
theorem jF_345_31 : j_F 345 31 = some (.sipush 1000, 3, 0, 0, .null, .int) := by decide +kernel
theorem jF_345_34 : j_F 345 34 = some (.isub, 1, 0, 0, .null, .int) := by decide +kernel
theorem jF_345_35 : j_F 345 35 = some (.i2l, 1, 0, 0, .null, .int) := by decide +kernel
theorem jF_345_36 : j_F 345 36 = some (.invokevirtual 650, 3, 346, 2, .null, .int) := by decide +kernel
theorem jF_345_39 : j_F 345 39 = some (.goto 123, 3, 162, 0, .null, .int) := by decide +kernel
theorem jF_345_42 : j_F 345 42 = some (.iload_n 3, 1, 0, 0, .null, .int) := by decide +kernel
theorem jF_345_43 : j_F 345 43 = some (.bipush 60, 2, 0, 0, .null, .int) := by decide +kernel
theorem jF_345_45 : j_F 345 45 = some (.if_icmp .lt 40, 3, 85, 0, .null, .int) := by decide +kernel
theorem jF_345_48 : j_F 345 48 = some (.aload_n 0, 1, 0, 0, .null, .int) := by decide +kernel
theorem jF_345_49 : j_F 345 49 = some (.getfield 203, 3, 12, 92, .null, (.array .long)) := by decide +kernel
theorem jF_345_52 : j_F 345 52 = some (.aload_n 0, 1, 0, 0, .null, .int) := by decide +kernel
theorem jF_345_53 : j_F 345 53 = some (.getfield 643, 3, 12, 93, .null, .int) := by decide +kernel
theorem jF_345_56 : j_F 345 56 = some (.iconst 1, 1, 0, 0, .null, .int) := by decide +kernel
theorem jF_345_57 : j_F 345 57 = some (.isub, 1, 0, 0, .null, .int) := by decide +kernel
theorem jF_345_58 : j_F 345 58 = some (.aload_n 0, 1, 0, 0, .null, .int) := by decide +kernel
theorem jF_345_59 : j_F 345 59 = some (.iload_n 3, 1, 0, 0, .null, .int) := by decide +kernel
theorem jF_345_60 : j_F 345 60 = some (.bipush 60, 2, 0, 0, .null, .int) := by decide +kernel
theorem jF_345_62 : j_F 345 62 = some (.isub, 1, 0, 0, .null, .int) := by decide +kernel
theorem jF_345_63 : j_F 345 63 = some (.aload_n 0, 1, 0, 0, .null, .int) := by decide +kernel
theorem jF_345_64 : j_F 345 64 = some (.getfield 203, 3, 12, 92, .null, (.array .long)) := by decide +kernel
theorem jF_345_67 : j_F 345 67 = some (.aload_n 0, 1, 0, 0, .null, .int) := by decide +kernel
theorem jF_345_68 : j_F 345 68 = some (.getfield 643, 3, 12, 93, .null, .int) := by decide +kernel
theorem jF_345_71 : j_F 345 71 = some (.iconst 1, 1, 0, 0, .null, .int) := by decide +kernel
theorem jF_345_72 : j_F 345 72 = some (.isub, 1, 0, 0, .null, .int) := by decide +kernel
theorem jF_345_73 : j_F 345 73 = some (.laload, 1, 0, 0, .null, .int) := by decide +kernel
theorem jF_345_74 : j_F 345 74 = some (.iload_n 1, 1, 0, 0, .null, .int) := by decide +kernel
theorem jF_345_75 : j_F 345 75 = some (.invokevirtual 661, 3, 347, 4, .null, .int) := by decide +kernel
theorem jF_345_78 : j_F 345 78 = some (.invokestatic 646, 3, 349, 1, .null, .int) := by decide +kernel
theorem jF_345_81 : j_F 345 81 = some (.lastore, 1, 0, 0, .null, .int) := by decide +kernel
theorem jF_345_82 : j_F 345 82 = some (.goto 80, 3, 162, 0, .null, .int) := by decide +kernel
theorem jF_345_85 : j_F 345 85 = some (.iload_n 3, 1, 0, 0, .null, .int) := by decide +kernel
theorem jF_345_86 : j_F 345 86 = some (.bipush 40, 2, 0, 0, .null, .int) := by decide +kernel
theorem jF_345_88 : j_F 345 88 = some (.if_icmp .lt 22, 3, 110, 0, .null, .int) := by decide +kernel
theorem jF_345_91 : j_F 345 91 = some (.aload_n 0, 1, 0, 0, .null, .int) := by decide +kernel
theorem jF_345_92 : j_F 345 92 = some (.aload_n 0, 1, 0, 0, .null, .int) := by decide +kernel
theorem jF_345_93 : j_F 345 93 = some (.iload_n 3, 1, 0, 0, .null, .int) := by decide +kernel
theorem jF_345_94 : j_F 345 94 = some (.bipush 40, 2, 0, 0, .null, .int) := by decide +kernel
theorem jF_345_96 : j_F 345 96 = some (.isub, 1, 0, 0, .null, .int) := by decide +kernel
theorem jF_345_97 : j_F 345 97 = some (.iload_n 1, 1, 0, 0, .null, .int) := by decide +kernel
theorem jF_345_98 : j_F 345 98 = some (.invokevirtual 665, 3, 350, 3, .null, .int) := by decide +kernel
theorem jF_345_101 : j_F 345 101 = some (.invokestatic 646, 3, 349, 1, .null, .int) := by decide +kernel
theorem jF_345_104 : j_F 345 104 = some (.invokevirtual 650, 3, 346, 2, .null, .int) := by decide +kernel
theorem jF_345_107 : j_F 345 107 = some (.goto 55, 3, 162, 0, .null, .int) := by decide +kernel
theorem jF_345_110 : j_F 345 110 = some (.iload_n 3, 1, 0, 0, .null, .int) := by decide +kernel
theorem jF_345_111 : j_F 345 111 = some (.bipush 13, 2, 0, 0, .null, .int) := by decide +kernel
theorem jF_345_113 : j_F 345 113 = some (.if_icmp .ne 11, 3, 124, 0, .null, .int) := by decide +kernel
theorem jF_345_116 : j_F 345 116 = some (.aload_n 0, 1, 0, 0, .null, .int) := by decide +kernel
theorem jF_345_117 : j_F 345 117 = some (.lconst 1, 1, 0, 0, .null, .int) := by decide +kernel
theorem jF_345_118 : j_F 345 118 = some (.invokevirtual 650, 3, 346, 2, .null, .int) := by decide +kernel
theorem jF_345_121 : j_F 345 121 = some (.goto 41, 3, 162, 0, .null, .int) := by decide +kernel
theorem jF_345_124 : j_F 345 124 = some (.iload_n 3, 1, 0, 0, .null, .int) := by decide +kernel
theorem jF_345_125 : j_F 345 125 = some (.bipush 12, 2, 0, 0, .null, .int) := by decide +kernel
theorem jF_345_127 : j_F 345 127 = some (.if_icmp .ne 30, 3, 157, 0, .null, .int) := by decide +kernel
theorem jF_345_130 : j_F 345 130 = some (.aload_n 0, 1, 0, 0, .null, .int) := by decide +kernel
theorem jF_345_131 : j_F 345 131 = some (.getfield 203, 3, 12, 92, .null, (.array .long)) := by decide +kernel
theorem jF_345_134 : j_F 345 134 = some (.aload_n 0, 1, 0, 0, .null, .int) := by decide +kernel
theorem jF_345_135 : j_F 345 135 = some (.getfield 643, 3, 12, 93, .null, .int) := by decide +kernel
theorem jF_345_138 : j_F 345 138 = some (.iconst 1, 1, 0, 0, .null, .int) := by decide +kernel
theorem jF_345_139 : j_F 345 139 = some (.isub, 1, 0, 0, .null, .int) := by decide +kernel
theorem jF_345_140 : j_F 345 140 = some (.lconst 1, 1, 0, 0, .null, .int) := by decide +kernel
theorem jF_345_141 : j_F 345 141 = some (.aload_n 0, 1, 0, 0, .null, .int) := by decide +kernel
theorem jF_345_142 : j_F 345 142 = some (.getfield 203, 3, 12, 92, .null, (.array .long)) := by decide +kernel
theorem jF_345_145 : j_F 345 145 = some (.aload_n 0, 1, 0, 0, .null, .int) := by decide +kernel
theorem jF_345_146 : j_F 345 146 = some (.getfield 643, 3, 12, 93, .null, .int) := by decide +kernel
theorem jF_345_149 : j_F 345 149 = some (.iconst 1, 1, 0, 0, .null, .int) := by decide +kernel
theorem jF_345_150 : j_F 345 150 = some (.isub, 1, 0, 0, .null, .int) := by decide +kernel
theorem jF_345_151 : j_F 345 151 = some (.laload, 1, 0, 0, .null, .int) := by decide +kernel
theorem jF_345_152 : j_F 345 152 = some (.lsub, 1, 0, 0, .null, .int) := by decide +kernel
theorem jF_345_153 : j_F 345 153 = some (.lastore, 1, 0, 0, .null, .int) := by decide +kernel
theorem jF_345_154 : j_F 345 154 = some (.goto 8, 3, 162, 0, .null, .int) := by decide +kernel
theorem jF_345_157 : j_F 345 157 = some (.aload_n 0, 1, 0, 0, .null, .int) := by decide +kernel
theorem jF_345_158 : j_F 345 158 = some (.iload_n 3, 1, 0, 0, .null, .int) := by decide +kernel
theorem jF_345_159 : j_F 345 159 = some (.invokevirtual 669, 3, 351, 2, .null, .int) := by decide +kernel
theorem jF_345_162 : j_F 345 162 = some (.iinc 2 1, 3, 0, 0, .null, .int) := by decide +kernel
theorem jF_345_165 : j_F 345 165 = some (.goto (-158), 3, 7, 0, .null, .int) := by decide +kernel
theorem jF_345_168 : j_F 345 168 = some (.aload_n 0, 1, 0, 0, .null, .int) := by decide +kernel
theorem jF_345_169 : j_F 345 169 = some (.getfield 203, 3, 12, 92, .null, (.array .long)) := by decide +kernel
theorem jF_345_172 : j_F 345 172 = some (.iconst 0, 1, 0, 0, .null, .int) := by decide +kernel
theorem jF_345_173 : j_F 345 173 = some (.laload, 1, 0, 0, .null, .int) := by decide +kernel
theorem jF_345_174 : j_F 345 174 = some (.lreturn, 1, 0, 0, .null, .int) := by decide +kernel
theorem jF_346_0 : j_F 346 0 = some (.aload_n 0, 1, 0, 0, .null, .int) := by decide +kernel
theorem jF_346_1 : j_F 346 1 = some (.getfield 203, 3, 12, 92, .null, (.array .long)) := by decide +kernel
theorem jF_346_4 : j_F 346 4 = some (.aload_n 0, 1, 0, 0, .null, .int) := by decide +kernel
theorem jF_346_5 : j_F 346 5 = some (.getfield 643, 3, 12, 93, .null, .int) := by decide +kernel
theorem jF_346_8 : j_F 346 8 = some (.lload_n 1, 1, 0, 0, .null, .int) := by decide +kernel
theorem jF_346_9 : j_F 346 9 = some (.lastore, 1, 0, 0, .null, .int) := by decide +kernel
theorem jF_346_10 : j_F 346 10 = some (.aload_n 0, 1, 0, 0, .null, .int) := by decide +kernel
theorem jF_346_11 : j_F 346 11 = some (.dup, 1, 0, 0, .null, .int) := by decide +kernel
theorem jF_346_12 : j_F 346 12 = some (.getfield 643, 3, 12, 93, .null, .int) := by decide +kernel
theorem jF_346_15 : j_F 346 15 = some (.iconst 1, 1, 0, 0, .null, .int) := by decide +kernel
theorem jF_346_16 : j_F 346 16 = some (.iadd, 1, 0, 0, .null, .int) := by decide +kernel
theorem jF_346_17 : j_F 346 17 = some (.putfield 643, 3, 12, 93, .null, .int) := by decide +kernel
theorem jF_346_20 : j_F 346 20 = some (.return_, 1, 0, 0, .null, .int) := by decide +kernel
theorem jF_347_0 : j_F 347 0 = some (.iload_n 1, 1, 0, 0, .null, .int) := by decide +kernel
theorem jF_347_1 : j_F 347 1 = some (.lookupswitch 11 #[], 11, 0, 0, .null, .int) := by decide +kernel
theorem jF_347_12 : j_F 347 12 = some (.aload_n 0, 1, 0, 0, .null, .int) := by decide +kernel
theorem jF_347_13 : j_F 347 13 = some (.lload_n 2, 1, 0, 0, .null, .int) := by decide +kernel
theorem jF_347_14 : j_F 347 14 = some (.iload 4, 2, 0, 0, .null, .int) := by decide +kernel
theorem jF_347_16 : j_F 347 16 = some (.invokevirtual 657, 3, 348, 3, .null, .int) := by decide +kernel
theorem jF_347_19 : j_F 347 19 = some (.lreturn, 1, 0, 0, .null, .int) := by decide +kernel
theorem jF_349_0 : j_F 349 0 = some (.lload_n 0, 1, 0, 0, .null, .int) := by decide +kernel
theorem jF_349_1 : j_F 349 1 = some (.ldc2_w 639, 3, 0, 0, (.long (1000000)), .int) := by decide +kernel
theorem jF_349_4 : j_F 349 4 = some (.lcmp, 1, 0, 0, .null, .int) := by decide +kernel
theorem jF_349_5 : j_F 349 5 = some (.ifCond .le 9, 3, 14, 0, .null, .int) := by decide +kernel
theorem jF_349_8 : j_F 349 8 = some (.ldc2_w 639, 3, 0, 0, (.long (1000000)), .int) := by decide +kernel
theorem jF_349_11 : j_F 349 11 = some (.goto 18, 3, 29, 0, .null, .int) := by decide +kernel
theorem jF_349_14 : j_F 349 14 = some (.lload_n 0, 1, 0, 0, .null, .int) := by decide +kernel
theorem jF_349_15 : j_F 349 15 = some (.ldc2_w 641, 3, 0, 0, (.long (-1000000)), .int) := by decide +kernel
theorem jF_349_18 : j_F 349 18 = some (.lcmp, 1, 0, 0, .null, .int) := by decide +kernel
theorem jF_349_19 : j_F 349 19 = some (.ifCond .ge 9, 3, 28, 0, .null, .int) := by decide +kernel
theorem jF_349_22 : j_F 349 22 = some (.ldc2_w 641, 3, 0, 0, (.long (-1000000)), .int) := by decide +kernel
theorem jF_349_25 : j_F 349 25 = some (.goto 4, 3, 29, 0, .null, .int) := by decide +kernel
theorem jF_349_28 : j_F 349 28 = some (.lload_n 0, 1, 0, 0, .null, .int) := by decide +kernel
theorem jF_349_29 : j_F 349 29 = some (.lreturn, 1, 0, 0, .null, .int) := by decide +kernel
theorem jF_350_0 : j_F 350 0 = some (.iload_n 1, 1, 0, 0, .null, .int) := by decide +kernel
theorem jF_350_1 : j_F 350 1 = some (.tableswitch 72 0 4 #[35, 38, 46, 54, 62], 35, 0, 0, .null, .int) := by decide +kernel
theorem jF_350_36 : j_F 350 36 = some (.iload_n 2, 1, 0, 0, .null, .int) := by decide +kernel
theorem jF_350_37 : j_F 350 37 = some (.i2l, 1, 0, 0, .null, .int) := by decide +kernel
theorem jF_350_38 : j_F 350 38 = some (.lreturn, 1, 0, 0, .null, .int) := by decide +kernel
theorem jF_350_39 : j_F 350 39 = some (.aload_n 0, 1, 0, 0, .null, .int) := by decide +kernel
theorem jF_350_40 : j_F 350 40 = some (.iload_n 2, 1, 0, 0, .null, .int) := by decide +kernel
theorem jF_350_41 : j_F 350 41 = some (.iconst 0, 1, 0, 0, .null, .int) := by decide +kernel
theorem jF_350_42 : j_F 350 42 = some (.invokevirtual 361, 3, 245, 3, .null, .int) := by decide +kernel
theorem jF_350_45 : j_F 350 45 = some (.i2l, 1, 0, 0, .null, .int) := by decide +kernel
theorem jF_350_46 : j_F 350 46 = some (.lreturn, 1, 0, 0, .null, .int) := by decide +kernel
theorem jF_350_47 : j_F 350 47 = some (.aload_n 0, 1, 0, 0, .null, .int) := by decide +kernel
theorem jF_350_48 : j_F 350 48 = some (.iload_n 2, 1, 0, 0, .null, .int) := by decide +kernel
theorem jF_350_49 : j_F 350 49 = some (.iconst 1, 1, 0, 0, .null, .int) := by decide +kernel
theorem jF_350_50 : j_F 350 50 = some (.invokevirtual 361, 3, 245, 3, .null, .int) := by decide +kernel
theorem jF_350_53 : j_F 350 53 = some (.i2l, 1, 0, 0, .null, .int) := by decide +kernel
theorem jF_350_54 : j_F 350 54 = some (.lreturn, 1, 0, 0, .null, .int) := by decide +kernel
theorem jF_350_55 : j_F 350 55 = some (.aload_n 0, 1, 0, 0, .null, .int) := by decide +kernel
theorem jF_350_56 : j_F 350 56 = some (.iload_n 2, 1, 0, 0, .null, .int) := by decide +kernel
theorem jF_350_57 : j_F 350 57 = some (.iconst 2, 1, 0, 0, .null, .int) := by decide +kernel
theorem jF_350_58 : j_F 350 58 = some (.invokevirtual 361, 3, 245, 3, .null, .int) := by decide +kernel
theorem jF_350_61 : j_F 350 61 = some (.i2l, 1, 0, 0, .null, .int) := by decide +kernel
theorem jF_350_62 : j_F 350 62 = some (.lreturn, 1, 0, 0, .null, .int) := by decide +kernel
theorem jF_350_63 : j_F 350 63 = some (.aload_n 0, 1, 0, 0, .null, .int) := by decide +kernel
theorem jF_350_64 : j_F 350 64 = some (.iconst 0, 1, 0, 0, .null, .int) := by decide +kernel
theorem jF_350_65 : j_F 350 65 = some (.invokevirtual 448, 3, 277, 2, .null, .int) := by decide +kernel
theorem jF_350_68 : j_F 350 68 = some (.iload_n 2, 1, 0, 0, .null, .int) := by decide +kernel
theorem jF_350_69 : j_F 350 69 = some (.lshr, 1, 0, 0, .null, .int) := by decide +kernel
theorem jF_350_70 : j_F 350 70 = some (.lconst 1, 1, 0, 0, .null, .int) := by decide +kernel
theorem jF_350_71 : j_F 350 71 = some (.land, 1, 0, 0, .null, .int) := by decide +kernel
theorem jF_350_72 : j_F 350 72 = some (.lreturn, 1, 0, 0, .null, .int) := by decide +kernel
theorem jF_350_73 : j_F 350 73 = some (.aload_n 0, 1, 0, 0, .null, .int) := by decide +kernel
theorem jF_350_74 : j_F 350 74 = some (.iconst 1, 1, 0, 0, .null, .int) := by decide +kernel
theorem jF_350_75 : j_F 350 75 = some (.invokevirtual 448, 3, 277, 2, .null, .int) := by decide +kernel
theorem jF_350_78 : j_F 350 78 = some (.iload_n 2, 1, 0, 0, .null, .int) := by decide +kernel
theorem jF_350_79 : j_F 350 79 = some (.lshr, 1, 0, 0, .null, .int) := by decide +kernel
theorem jF_350_80 : j_F 350 80 = some (.lconst 1, 1, 0, 0, .null, .int) := by decide +kernel
theorem jF_350_81 : j_F 350 81 = some (.land, 1, 0, 0, .null, .int) := by decide +kernel
theorem jF_350_82 : j_F 350 82 = some (.lreturn, 1, 0, 0, .null, .int) := by decide +kernel
theorem jF_351_0 : j_F 351 0 = some (.aload_n 0, 1, 0, 0, .null, .int) := by decide +kernel
theorem jF_351_1 : j_F 351 1 = some (.getfield 203, 3, 12, 92, .null, (.array .long)) := by decide +kernel
theorem jF_351_4 : j_F 351 4 = some (.aload_n 0, 1, 0, 0, .null, .int) := by decide +kernel
theorem jF_351_5 : j_F 351 5 = some (.getfield 643, 3, 12, 93, .null, .int) := by decide +kernel
theorem jF_351_8 : j_F 351 8 = some (.iconst 1, 1, 0, 0, .null, .int) := by decide +kernel
theorem jF_351_9 : j_F 351 9 = some (.isub, 1, 0, 0, .null, .int) := by decide +kernel
theorem jF_351_10 : j_F 351 10 = some (.laload, 1, 0, 0, .null, .int) := by decide +kernel
theorem jF_351_11 : j_F 351 11 = some (.lstore_n 2, 1, 0, 0, .null, .int) := by decide +kernel
theorem jF_351_12 : j_F 351 12 = some (.aload_n 0, 1, 0, 0, .null, .int) := by decide +kernel
theorem jF_351_13 : j_F 351 13 = some (.getfield 203, 3, 12, 92, .null, (.array .long)) := by decide +kernel
theorem jF_351_16 : j_F 351 16 = some (.aload_n 0, 1, 0, 0, .null, .int) := by decide +kernel
theorem jF_351_17 : j_F 351 17 = some (.getfield 643, 3, 12, 93, .null, .int) := by decide +kernel
theorem jF_351_20 : j_F 351 20 = some (.iconst 2, 1, 0, 0, .null, .int) := by decide +kernel
theorem jF_351_21 : j_F 351 21 = some (.isub, 1, 0, 0, .null, .int) := by decide +kernel
theorem jF_351_22 : j_F 351 22 = some (.laload, 1, 0, 0, .null, .int) := by decide +kernel
theorem jF_351_23 : j_F 351 23 = some (.lstore 4, 2, 0, 0, .null, .int) := by decide +kernel
theorem jF_351_25 : j_F 351 25 = some (.aload_n 0, 1, 0, 0, .null, .int) := by decide +kernel
theorem jF_351_26 : j_F 351 26 = some (.dup, 1, 0, 0, .null, .int) := by decide +kernel
theorem jF_351_27 : j_F 351 27 = some (.getfield 643, 3, 12, 93, .null, .int) := by decide +kernel
theorem jF_351_30 : j_F 351 30 = some (.iconst 2, 1, 0, 0, .null, .int) := by decide +kernel
theorem jF_351_31 : j_F 351 31 = some (.isub, 1, 0, 0, .null, .int) := by decide +kernel
theorem jF_351_32 : j_F 351 32 = some (.putfield 643, 3, 12, 93, .null, .int) := by decide +kernel
theorem jF_351_35 : j_F 351 35 = some (.iload_n 1, 1, 0, 0, .null, .int) := by decide +kernel
theorem jF_351_36 : j_F 351 36 = some (.tableswitch 219 1 10 #[56, 70, 84, 98, 111, 131, 151, 170, 189, 208], 56, 0, 0, .null, .int) := by decide +kernel
theorem jF_351_92 : j_F 351 92 = some (.aload_n 0, 1, 0, 0, .null, .int) := by decide +kernel
theorem jF_351_93 : j_F 351 93 = some (.lload 4, 2, 0, 0, .null, .int) := by decide +kernel
theorem jF_351_95 : j_F 351 95 = some (.lload_n 2, 1, 0, 0, .null, .int) := by decide +kernel
theorem jF_351_96 : j_F 351 96 = some (.ladd, 1, 0, 0, .null, .int) := by decide +kernel
theorem jF_351_97 : j_F 351 97 = some (.invokestatic 646, 3, 349, 1, .null, .int) := by decide +kernel
theorem jF_351_100 : j_F 351 100 = some (.invokevirtual 650, 3, 346, 2, .null, .int) := by decide +kernel
theorem jF_351_103 : j_F 351 103 = some (.goto 170, 3, 273, 0, .null, .int) := by decide +kernel
theorem jF_351_106 : j_F 351 106 = some (.aload_n 0, 1, 0, 0, .null, .int) := by decide +kernel
theorem jF_351_107 : j_F 351 107 = some (.lload 4, 2, 0, 0, .null, .int) := by decide +kernel
theorem jF_351_109 : j_F 351 109 = some (.lload_n 2, 1, 0, 0, .null, .int) := by decide +kernel
theorem jF_351_110 : j_F 351 110 = some (.lsub, 1, 0, 0, .null, .int) := by decide +kernel
theorem jF_351_111 : j_F 351 111 = some (.invokestatic 646, 3, 349, 1, .null, .int) := by decide +kernel
theorem jF_351_114 : j_F 351 114 = some (.invokevirtual 650, 3, 346, 2, .null, .int) := by decide +kernel
theorem jF_351_117 : j_F 351 117 = some (.goto 156, 3, 273, 0, .null, .int) := by decide +kernel
theorem jF_351_120 : j_F 351 120 = some (.aload_n 0, 1, 0, 0, .null, .int) := by decide +kernel
theorem jF_351_121 : j_F 351 121 = some (.lload 4, 2, 0, 0, .null, .int) := by decide +kernel
theorem jF_351_123 : j_F 351 123 = some (.lload_n 2, 1, 0, 0, .null, .int) := by decide +kernel
theorem jF_351_124 : j_F 351 124 = some (.lmul, 1, 0, 0, .null, .int) := by decide +kernel
theorem jF_351_125 : j_F 351 125 = some (.invokestatic 646, 3, 349, 1, .null, .int) := by decide +kernel
theorem jF_351_128 : j_F 351 128 = some (.invokevirtual 650, 3, 346, 2, .null, .int) := by decide +kernel
theorem jF_351_131 : j_F 351 131 = some (.goto 142, 3, 273, 0, .null, .int) := by decide +kernel
theorem jF_351_134 : j_F 351 134 = some (.aload_n 0, 1, 0, 0, .null, .int) := by decide +kernel
theorem jF_351_135 : j_F 351 135 = some (.lload 4, 2, 0, 0, .null, .int) := by decide +kernel
theorem jF_351_137 : j_F 351 137 = some (.lload_n 2, 1, 0, 0, .null, .int) := by decide +kernel
theorem jF_351_138 : j_F 351 138 = some (.invokestatic 653, 3, 352, 2, .null, .int) := by decide +kernel
theorem jF_351_141 : j_F 351 141 = some (.invokevirtual 650, 3, 346, 2, .null, .int) := by decide +kernel
theorem jF_351_144 : j_F 351 144 = some (.goto 129, 3, 273, 0, .null, .int) := by decide +kernel
theorem jF_351_147 : j_F 351 147 = some (.aload_n 0, 1, 0, 0, .null, .int) := by decide +kernel
theorem jF_351_148 : j_F 351 148 = some (.lload 4, 2, 0, 0, .null, .int) := by decide +kernel
theorem jF_351_150 : j_F 351 150 = some (.lload_n 2, 1, 0, 0, .null, .int) := by decide +kernel
theorem jF_351_151 : j_F 351 151 = some (.lcmp, 1, 0, 0, .null, .int) := by decide +kernel
theorem jF_351_152 : j_F 351 152 = some (.ifCond .ge 8, 3, 160, 0, .null, .int) := by decide +kernel
theorem jF_351_155 : j_F 351 155 = some (.lload 4, 2, 0, 0, .null, .int) := by decide +kernel
theorem jF_351_157 : j_F 351 157 = some (.goto 4, 3, 161, 0, .null, .int) := by decide +kernel
theorem jF_351_160 : j_F 351 160 = some (.lload_n 2, 1, 0, 0, .null, .int) := by decide +kernel
theorem jF_351_161 : j_F 351 161 = some (.invokevirtual 650, 3, 346, 2, .null, .int) := by decide +kernel
theorem jF_351_164 : j_F 351 164 = some (.goto 109, 3, 273, 0, .null, .int) := by decide +kernel
theorem jF_351_167 : j_F 351 167 = some (.aload_n 0, 1, 0, 0, .null, .int) := by decide +kernel
theorem jF_351_168 : j_F 351 168 = some (.lload 4, 2, 0, 0, .null, .int) := by decide +kernel
theorem jF_351_170 : j_F 351 170 = some (.lload_n 2, 1, 0, 0, .null, .int) := by decide +kernel
theorem jF_351_171 : j_F 351 171 = some (.lcmp, 1, 0, 0, .null, .int) := by decide +kernel
theorem jF_351_172 : j_F 351 172 = some (.ifCond .le 8, 3, 180, 0, .null, .int) := by decide +kernel
theorem jF_351_175 : j_F 351 175 = some (.lload 4, 2, 0, 0, .null, .int) := by decide +kernel
theorem jF_351_177 : j_F 351 177 = some (.goto 4, 3, 181, 0, .null, .int) := by decide +kernel
theorem jF_351_180 : j_F 351 180 = some (.lload_n 2, 1, 0, 0, .null, .int) := by decide +kernel
theorem jF_351_181 : j_F 351 181 = some (.invokevirtual 650, 3, 346, 2, .null, .int) := by decide +kernel
theorem jF_351_184 : j_F 351 184 = some (.goto 89, 3, 273, 0, .null, .int) := by decide +kernel
theorem jF_351_187 : j_F 351 187 = some (.aload_n 0, 1, 0, 0, .null, .int) := by decide +kernel
theorem jF_351_188 : j_F 351 188 = some (.lload 4, 2, 0, 0, .null, .int) := by decide +kernel
theorem jF_351_190 : j_F 351 190 = some (.lload_n 2, 1, 0, 0, .null, .int) := by decide +kernel
theorem jF_351_191 : j_F 351 191 = some (.lcmp, 1, 0, 0, .null, .int) := by decide +kernel
theorem jF_351_192 : j_F 351 192 = some (.ifCond .ge 7, 3, 199, 0, .null, .int) := by decide +kernel
theorem jF_351_195 : j_F 351 195 = some (.lconst 1, 1, 0, 0, .null, .int) := by decide +kernel
theorem jF_351_196 : j_F 351 196 = some (.goto 4, 3, 200, 0, .null, .int) := by decide +kernel
theorem jF_351_199 : j_F 351 199 = some (.lconst 0, 1, 0, 0, .null, .int) := by decide +kernel
theorem jF_351_200 : j_F 351 200 = some (.invokevirtual 650, 3, 346, 2, .null, .int) := by decide +kernel
theorem jF_351_203 : j_F 351 203 = some (.goto 70, 3, 273, 0, .null, .int) := by decide +kernel
theorem jF_351_206 : j_F 351 206 = some (.aload_n 0, 1, 0, 0, .null, .int) := by decide +kernel
theorem jF_351_207 : j_F 351 207 = some (.lload 4, 2, 0, 0, .null, .int) := by decide +kernel
theorem jF_351_209 : j_F 351 209 = some (.lload_n 2, 1, 0, 0, .null, .int) := by decide +kernel
theorem jF_351_210 : j_F 351 210 = some (.lcmp, 1, 0, 0, .null, .int) := by decide +kernel
theorem jF_351_211 : j_F 351 211 = some (.ifCond .le 7, 3, 218, 0, .null, .int) := by decide +kernel
theorem jF_351_214 : j_F 351 214 = some (.lconst 1, 1, 0, 0, .null, .int) := by decide +kernel
theorem jF_351_215 : j_F 351 215 = some (.goto 4, 3, 219, 0, .null, .int) := by decide +kernel
theorem jF_351_218 : j_F 351 218 = some (.lconst 0, 1, 0, 0, .null, .int) := by decide +kernel
theorem jF_351_219 : j_F 351 219 = some (.invokevirtual 650, 3, 346, 2, .null, .int) := by decide +kernel
theorem jF_351_222 : j_F 351 222 = some (.goto 51, 3, 273, 0, .null, .int) := by decide +kernel
theorem jF_351_225 : j_F 351 225 = some (.aload_n 0, 1, 0, 0, .null, .int) := by decide +kernel
theorem jF_351_226 : j_F 351 226 = some (.lload 4, 2, 0, 0, .null, .int) := by decide +kernel
theorem jF_351_228 : j_F 351 228 = some (.lload_n 2, 1, 0, 0, .null, .int) := by decide +kernel
theorem jF_351_229 : j_F 351 229 = some (.lcmp, 1, 0, 0, .null, .int) := by decide +kernel
theorem jF_351_230 : j_F 351 230 = some (.ifCond .ne 7, 3, 237, 0, .null, .int) := by decide +kernel
theorem jF_351_233 : j_F 351 233 = some (.lconst 1, 1, 0, 0, .null, .int) := by decide +kernel
theorem jF_351_234 : j_F 351 234 = some (.goto 4, 3, 238, 0, .null, .int) := by decide +kernel
theorem jF_351_237 : j_F 351 237 = some (.lconst 0, 1, 0, 0, .null, .int) := by decide +kernel
theorem jF_351_238 : j_F 351 238 = some (.invokevirtual 650, 3, 346, 2, .null, .int) := by decide +kernel
theorem jF_351_241 : j_F 351 241 = some (.goto 32, 3, 273, 0, .null, .int) := by decide +kernel
theorem jF_351_244 : j_F 351 244 = some (.aload_n 0, 1, 0, 0, .null, .int) := by decide +kernel
theorem jF_351_245 : j_F 351 245 = some (.lload 4, 2, 0, 0, .null, .int) := by decide +kernel
theorem jF_351_247 : j_F 351 247 = some (.lload_n 2, 1, 0, 0, .null, .int) := by decide +kernel
theorem jF_351_248 : j_F 351 248 = some (.lmul, 1, 0, 0, .null, .int) := by decide +kernel
theorem jF_351_249 : j_F 351 249 = some (.invokevirtual 650, 3, 346, 2, .null, .int) := by decide +kernel
theorem jF_351_252 : j_F 351 252 = some (.goto 21, 3, 273, 0, .null, .int) := by decide +kernel
theorem jF_351_255 : j_F 351 255 = some (.aload_n 0, 1, 0, 0, .null, .int) := by decide +kernel
theorem jF_351_256 : j_F 351 256 = some (.lload 4, 2, 0, 0, .null, .int) := by decide +kernel
theorem jF_351_258 : j_F 351 258 = some (.lload_n 2, 1, 0, 0, .null, .int) := by decide +kernel
theorem jF_351_259 : j_F 351 259 = some (.ladd, 1, 0, 0, .null, .int) := by decide +kernel
theorem jF_351_260 : j_F 351 260 = some (.lconst 0, 1, 0, 0, .null, .int) := by decide +kernel
theorem jF_351_261 : j_F 351 261 = some (.lcmp, 1, 0, 0, .null, .int) := by decide +kernel
theorem jF_351_262 : j_F 351 262 = some (.ifCond .le 7, 3, 269, 0, .null, .int) := by decide +kernel
theorem jF_351_265 : j_F 351 265 = some (.lconst 1, 1, 0, 0, .null, .int) := by decide +kernel
theorem jF_351_266 : j_F 351 266 = some (.goto 4, 3, 270, 0, .null, .int) := by decide +kernel
theorem jF_351_269 : j_F 351 269 = some (.lconst 0, 1, 0, 0, .null, .int) := by decide +kernel
theorem jF_351_270 : j_F 351 270 = some (.invokevirtual 650, 3, 346, 2, .null, .int) := by decide +kernel
theorem jF_351_273 : j_F 351 273 = some (.return_, 1, 0, 0, .null, .int) := by decide +kernel
theorem jF_352_0 : j_F 352 0 = some (.lload_n 2, 1, 0, 0, .null, .int) := by decide +kernel
theorem jF_352_1 : j_F 352 1 = some (.lconst 0, 1, 0, 0, .null, .int) := by decide +kernel
theorem jF_352_2 : j_F 352 2 = some (.lcmp, 1, 0, 0, .null, .int) := by decide +kernel
theorem jF_352_3 : j_F 352 3 = some (.ifCond .ne 5, 3, 8, 0, .null, .int) := by decide +kernel
theorem jF_352_6 : j_F 352 6 = some (.lconst 0, 1, 0, 0, .null, .int) := by decide +kernel
theorem jF_352_7 : j_F 352 7 = some (.lreturn, 1, 0, 0, .null, .int) := by decide +kernel
theorem jF_352_8 : j_F 352 8 = some (.lload_n 0, 1, 0, 0, .null, .int) := by decide +kernel
theorem jF_352_9 : j_F 352 9 = some (.lload_n 2, 1, 0, 0, .null, .int) := by decide +kernel
theorem jF_352_10 : j_F 352 10 = some (.ldiv, 1, 0, 0, .null, .int) := by decide +kernel
theorem jF_352_11 : j_F 352 11 = some (.lstore 4, 2, 0, 0, .null, .int) := by decide +kernel
theorem jF_352_13 : j_F 352 13 = some (.lload_n 0, 1, 0, 0, .null, .int) := by decide +kernel
theorem jF_352_14 : j_F 352 14 = some (.lload_n 2, 1, 0, 0, .null, .int) := by decide +kernel
theorem jF_352_15 : j_F 352 15 = some (.lrem, 1, 0, 0, .null, .int) := by decide +kernel
theorem jF_352_16 : j_F 352 16 = some (.lconst 0, 1, 0, 0, .null, .int) := by decide +kernel
theorem jF_352_17 : j_F 352 17 = some (.lcmp, 1, 0, 0, .null, .int) := by decide +kernel
theorem jF_352_18 : j_F 352 18 = some (.ifCond .eq 35, 3, 53, 0, .null, .int) := by decide +kernel
theorem jF_352_21 : j_F 352 21 = some (.lload_n 0, 1, 0, 0, .null, .int) := by decide +kernel
theorem jF_352_22 : j_F 352 22 = some (.lconst 0, 1, 0, 0, .null, .int) := by decide +kernel
theorem jF_352_23 : j_F 352 23 = some (.lcmp, 1, 0, 0, .null, .int) := by decide +kernel
theorem jF_352_24 : j_F 352 24 = some (.ifCond .ge 7, 3, 31, 0, .null, .int) := by decide +kernel
theorem jF_352_27 : j_F 352 27 = some (.iconst 1, 1, 0, 0, .null, .int) := by decide +kernel
theorem jF_352_28 : j_F 352 28 = some (.goto 4, 3, 32, 0, .null, .int) := by decide +kernel
theorem jF_352_31 : j_F 352 31 = some (.iconst 0, 1, 0, 0, .null, .int) := by decide +kernel
theorem jF_352_32 : j_F 352 32 = some (.lload_n 2, 1, 0, 0, .null, .int) := by decide +kernel
theorem jF_352_33 : j_F 352 33 = some (.lconst 0, 1, 0, 0, .null, .int) := by decide +kernel
theorem jF_352_34 : j_F 352 34 = some (.lcmp, 1, 0, 0, .null, .int) := by decide +kernel
theorem jF_352_35 : j_F 352 35 = some (.ifCond .ge 7, 3, 42, 0, .null, .int) := by decide +kernel
theorem jF_352_38 : j_F 352 38 = some (.iconst 1, 1, 0, 0, .null, .int) := by decide +kernel
theorem jF_352_39 : j_F 352 39 = some (.goto 4, 3, 43, 0, .null, .int) := by decide +kernel
theorem jF_352_42 : j_F 352 42 = some (.iconst 0, 1, 0, 0, .null, .int) := by decide +kernel
theorem jF_352_43 : j_F 352 43 = some (.if_icmp .eq 10, 3, 53, 0, .null, .int) := by decide +kernel
theorem jF_352_46 : j_F 352 46 = some (.lload 4, 2, 0, 0, .null, .int) := by decide +kernel
theorem jF_352_48 : j_F 352 48 = some (.lconst 1, 1, 0, 0, .null, .int) := by decide +kernel
theorem jF_352_49 : j_F 352 49 = some (.lsub, 1, 0, 0, .null, .int) := by decide +kernel
theorem jF_352_50 : j_F 352 50 = some (.goto 5, 3, 55, 0, .null, .int) := by decide +kernel
theorem jF_352_53 : j_F 352 53 = some (.lload 4, 2, 0, 0, .null, .int) := by decide +kernel
theorem jF_352_55 : j_F 352 55 = some (.lreturn, 1, 0, 0, .null, .int) := by decide +kernel
theorem jF_353_0 : j_F 353 0 = some (.iload_n 1, 1, 0, 0, .null, .int) := by decide +kernel
theorem jF_353_1 : j_F 353 1 = some (.iconst 3, 1, 0, 0, .null, .int) := by decide +kernel
theorem jF_353_2 : j_F 353 2 = some (.if_icmp .ge 13, 3, 15, 0, .null, .int) := by decide +kernel
theorem jF_353_5 : j_F 353 5 = some (.lload_n 2, 1, 0, 0, .null, .int) := by decide +kernel
theorem jF_353_6 : j_F 353 6 = some (.lconst 1, 1, 0, 0, .null, .int) := by decide +kernel
theorem jF_353_7 : j_F 353 7 = some (.lcmp, 1, 0, 0, .null, .int) := by decide +kernel
theorem jF_353_8 : j_F 353 8 = some (.ifCond .ne 7, 3, 15, 0, .null, .int) := by decide +kernel
theorem jF_353_11 : j_F 353 11 = some (.iconst 1, 1, 0, 0, .null, .int) := by decide +kernel
theorem jF_353_12 : j_F 353 12 = some (.goto 4, 3, 16, 0, .null, .int) := by decide +kernel
theorem jF_353_15 : j_F 353 15 = some (.iconst 0, 1, 0, 0, .null, .int) := by decide +kernel
theorem jF_353_16 : j_F 353 16 = some (.istore 5, 2, 0, 0, .null, .int) := by decide +kernel
theorem jF_353_18 : j_F 353 18 = some (.iload_n 1, 1, 0, 0, .null, .int) := by decide +kernel
theorem jF_353_19 : j_F 353 19 = some (.ifCond .ne 19, 3, 38, 0, .null, .int) := by decide +kernel
theorem jF_353_22 : j_F 353 22 = some (.iload 5, 2, 0, 0, .null, .int) := by decide +kernel
theorem jF_353_24 : j_F 353 24 = some (.ifCond .eq 14, 3, 38, 0, .null, .int) := by decide +kernel
theorem jF_353_27 : j_F 353 27 = some (.aload_n 0, 1, 0, 0, .null, .int) := by decide +kernel
theorem jF_353_28 : j_F 353 28 = some (.getfield 672, 3, 12, 94, .null, .long) := by decide +kernel
theorem jF_353_31 : j_F 353 31 = some (.ldc2_w 407, 3, 0, 0, (.long (-1)), .int) := by decide +kernel
theorem jF_353_34 : j_F 353 34 = some (.lcmp, 1, 0, 0, .null, .int) := by decide +kernel
theorem jF_353_35 : j_F 353 35 = some (.ifCond .eq 13, 3, 48, 0, .null, .int) := by decide +kernel
theorem jF_353_38 : j_F 353 38 = some (.iload_n 1, 1, 0, 0, .null, .int) := by decide +kernel
theorem jF_353_39 : j_F 353 39 = some (.iconst 1, 1, 0, 0, .null, .int) := by decide +kernel
theorem jF_353_40 : j_F 353 40 = some (.if_icmp .ne 15, 3, 55, 0, .null, .int) := by decide +kernel
theorem jF_353_43 : j_F 353 43 = some (.iload 5, 2, 0, 0, .null, .int) := by decide +kernel
theorem jF_353_45 : j_F 353 45 = some (.ifCond .eq 10, 3, 55, 0, .null, .int) := by decide +kernel
theorem jF_353_48 : j_F 353 48 = some (.aload_n 0, 1, 0, 0, .null, .int) := by decide +kernel
theorem jF_353_49 : j_F 353 49 = some (.iload 4, 2, 0, 0, .null, .int) := by decide +kernel
theorem jF_353_51 : j_F 353 51 = some (.i2l, 1, 0, 0, .null, .int) := by decide +kernel
theorem jF_353_52 : j_F 353 52 = some (.putfield 672, 3, 12, 94, .null, .long) := by decide +kernel
theorem jF_353_55 : j_F 353 55 = some (.iload_n 1, 1, 0, 0, .null, .int) := by decide +kernel
theorem jF_353_56 : j_F 353 56 = some (.iconst 2, 1, 0, 0, .null, .int) := by decide +kernel
theorem jF_353_57 : j_F 353 57 = some (.if_icmp .ne 18, 3, 75, 0, .null, .int) := by decide +kernel
theorem jF_353_60 : j_F 353 60 = some (.iload 5, 2, 0, 0, .null, .int) := by decide +kernel
theorem jF_353_62 : j_F 353 62 = some (.ifCond .eq 13, 3, 75, 0, .null, .int) := by decide +kernel
theorem jF_353_65 : j_F 353 65 = some (.aload_n 0, 1, 0, 0, .null, .int) := by decide +kernel
theorem jF_353_66 : j_F 353 66 = some (.dup, 1, 0, 0, .null, .int) := by decide +kernel
theorem jF_353_67 : j_F 353 67 = some (.getfield 672, 3, 12, 94, .null, .long) := by decide +kernel
theorem jF_353_70 : j_F 353 70 = some (.lconst 1, 1, 0, 0, .null, .int) := by decide +kernel
theorem jF_353_71 : j_F 353 71 = some (.ladd, 1, 0, 0, .null, .int) := by decide +kernel
theorem jF_353_72 : j_F 353 72 = some (.putfield 672, 3, 12, 94, .null, .long) := by decide +kernel
theorem jF_353_75 : j_F 353 75 = some (.iload_n 1, 1, 0, 0, .null, .int) := by decide +kernel
theorem jF_353_76 : j_F 353 76 = some (.iconst 3, 1, 0, 0, .null, .int) := by decide +kernel
theorem jF_353_77 : j_F 353 77 = some (.if_icmp .ne 13, 3, 90, 0, .null, .int) := by decide +kernel
theorem jF_353_80 : j_F 353 80 = some (.aload_n 0, 1, 0, 0, .null, .int) := by decide +kernel
theorem jF_353_81 : j_F 353 81 = some (.dup, 1, 0, 0, .null, .int) := by decide +kernel
theorem jF_353_82 : j_F 353 82 = some (.getfield 672, 3, 12, 94, .null, .long) := by decide +kernel
theorem jF_353_85 : j_F 353 85 = some (.lload_n 2, 1, 0, 0, .null, .int) := by decide +kernel
theorem jF_353_86 : j_F 353 86 = some (.ladd, 1, 0, 0, .null, .int) := by decide +kernel
theorem jF_353_87 : j_F 353 87 = some (.putfield 672, 3, 12, 94, .null, .long) := by decide +kernel
theorem jF_353_90 : j_F 353 90 = some (.iload_n 1, 1, 0, 0, .null, .int) := by decide +kernel
theorem jF_353_91 : j_F 353 91 = some (.iconst 3, 1, 0, 0, .null, .int) := by decide +kernel
theorem jF_353_92 : j_F 353 92 = some (.if_icmp .le 41, 3, 133, 0, .null, .int) := by decide +kernel
theorem jF_353_95 : j_F 353 95 = some (.aload_n 0, 1, 0, 0, .null, .int) := by decide +kernel
theorem jF_353_96 : j_F 353 96 = some (.getfield 675, 3, 12, 95, .null, .boolean) := by decide +kernel
theorem jF_353_99 : j_F 353 99 = some (.ifCond .ne 29, 3, 128, 0, .null, .int) := by decide +kernel
theorem jF_353_102 : j_F 353 102 = some (.iload_n 1, 1, 0, 0, .null, .int) := by decide +kernel
theorem jF_353_103 : j_F 353 103 = some (.iconst 4, 1, 0, 0, .null, .int) := by decide +kernel
theorem jF_353_104 : j_F 353 104 = some (.if_icmp .ne 15, 3, 119, 0, .null, .int) := by decide +kernel
theorem jF_353_107 : j_F 353 107 = some (.lload_n 2, 1, 0, 0, .null, .int) := by decide +kernel
theorem jF_353_108 : j_F 353 108 = some (.aload_n 0, 1, 0, 0, .null, .int) := by decide +kernel
theorem jF_353_109 : j_F 353 109 = some (.getfield 672, 3, 12, 94, .null, .long) := by decide +kernel
theorem jF_353_112 : j_F 353 112 = some (.lcmp, 1, 0, 0, .null, .int) := by decide +kernel
theorem jF_353_113 : j_F 353 113 = some (.ifCond .le 20, 3, 133, 0, .null, .int) := by decide +kernel
theorem jF_353_116 : j_F 353 116 = some (.goto 12, 3, 128, 0, .null, .int) := by decide +kernel
theorem jF_353_119 : j_F 353 119 = some (.lload_n 2, 1, 0, 0, .null, .int) := by decide +kernel
theorem jF_353_120 : j_F 353 120 = some (.aload_n 0, 1, 0, 0, .null, .int) := by decide +kernel
theorem jF_353_121 : j_F 353 121 = some (.getfield 672, 3, 12, 94, .null, .long) := by decide +kernel
theorem jF_353_124 : j_F 353 124 = some (.lcmp, 1, 0, 0, .null, .int) := by decide +kernel
theorem jF_353_125 : j_F 353 125 = some (.ifCond .ge 8, 3, 133, 0, .null, .int) := by decide +kernel
theorem jF_353_128 : j_F 353 128 = some (.aload_n 0, 1, 0, 0, .null, .int) := by decide +kernel
theorem jF_353_129 : j_F 353 129 = some (.lload_n 2, 1, 0, 0, .null, .int) := by decide +kernel
theorem jF_353_130 : j_F 353 130 = some (.putfield 672, 3, 12, 94, .null, .long) := by decide +kernel
theorem jF_353_133 : j_F 353 133 = some (.aload_n 0, 1, 0, 0, .null, .int) := by decide +kernel
theorem jF_353_134 : j_F 353 134 = some (.iconst 0, 1, 0, 0, .null, .int) := by decide +kernel
theorem jF_353_135 : j_F 353 135 = some (.putfield 675, 3, 12, 95, .null, .boolean) := by decide +kernel
theorem jF_353_138 : j_F 353 138 = some (.return_, 1, 0, 0, .null, .int) := by decide +kernel
