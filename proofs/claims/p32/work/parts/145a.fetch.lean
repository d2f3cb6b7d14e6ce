/-! CODE. -/
theorem jF_274_0 : j_F 274 0 = some (.aload_n 0, 1, 0, 0, .null, .int) := by decide +kernel
theorem jF_274_1 : j_F 274 1 = some (.invokevirtual 419, 3, 259, 1, .null, .int) := by decide +kernel
theorem jF_274_4 : j_F 274 4 = some (.lstore_n 1, 1, 0, 0, .null, .int) := by decide +kernel
theorem jF_274_5 : j_F 274 5 = some (.iconst 0, 1, 0, 0, .null, .int) := by decide +kernel
theorem jF_274_6 : j_F 274 6 = some (.istore_n 3, 1, 0, 0, .null, .int) := by decide +kernel
theorem jF_274_7 : j_F 274 7 = some (.iconst 0, 1, 0, 0, .null, .int) := by decide +kernel
theorem jF_274_8 : j_F 274 8 = some (.istore 4, 2, 0, 0, .null, .int) := by decide +kernel
theorem jF_274_10 : j_F 274 10 = some (.iload 4, 2, 0, 0, .null, .int) := by decide +kernel
theorem jF_274_12 : j_F 274 12 = some (.aload_n 0, 1, 0, 0, .null, .int) := by decide +kernel
theorem jF_274_13 : j_F 274 13 = some (.getfield 401, 3, 12, 49, .null, .int) := by decide +kernel
theorem jF_274_16 : j_F 274 16 = some (.if_icmp .ge 68, 3, 84, 0, .null, .int) := by decide +kernel
theorem jF_274_19 : j_F 274 19 = some (.lconst 0, 1, 0, 0, .null, .int) := by decide +kernel
theorem jF_274_20 : j_F 274 20 = some (.lstore 5, 2, 0, 0, .null, .int) := by decide +kernel
theorem jF_274_22 : j_F 274 22 = some (.iconst 0, 1, 0, 0, .null, .int) := by decide +kernel
theorem jF_274_23 : j_F 274 23 = some (.istore 7, 2, 0, 0, .null, .int) := by decide +kernel
theorem jF_274_25 : j_F 274 25 = some (.iload 7, 2, 0, 0, .null, .int) := by decide +kernel
theorem jF_274_27 : j_F 274 27 = some (.aload_n 0, 1, 0, 0, .null, .int) := by decide +kernel
theorem jF_274_28 : j_F 274 28 = some (.getfield 401, 3, 12, 49, .null, .int) := by decide +kernel
theorem jF_274_31 : j_F 274 31 = some (.if_icmp .ge 32, 3, 63, 0, .null, .int) := by decide +kernel
theorem jF_274_34 : j_F 274 34 = some (.iload 7, 2, 0, 0, .null, .int) := by decide +kernel
theorem jF_274_36 : j_F 274 36 = some (.iload 4, 2, 0, 0, .null, .int) := by decide +kernel
theorem jF_274_38 : j_F 274 38 = some (.if_icmp .eq 14, 3, 52, 0, .null, .int) := by decide +kernel
theorem jF_274_41 : j_F 274 41 = some (.lload 5, 2, 0, 0, .null, .int) := by decide +kernel
theorem jF_274_43 : j_F 274 43 = some (.aload_n 0, 1, 0, 0, .null, .int) := by decide +kernel
theorem jF_274_44 : j_F 274 44 = some (.iload 7, 2, 0, 0, .null, .int) := by decide +kernel
theorem jF_274_46 : j_F 274 46 = some (.invokevirtual 409, 3, 260, 2, .null, .int) := by decide +kernel
theorem jF_274_49 : j_F 274 49 = some (.lor, 1, 0, 0, .null, .int) := by decide +kernel
theorem jF_274_50 : j_F 274 50 = some (.lstore 5, 2, 0, 0, .null, .int) := by decide +kernel
theorem jF_274_52 : j_F 274 52 = some (.aload_n 0, 1, 0, 0, .null, .int) := by decide +kernel
theorem jF_274_53 : j_F 274 53 = some (.iload 7, 2, 0, 0, .null, .int) := by decide +kernel
theorem jF_274_55 : j_F 274 55 = some (.invokevirtual 413, 3, 261, 2, .null, .int) := by decide +kernel
theorem jF_274_58 : j_F 274 58 = some (.istore 7, 2, 0, 0, .null, .int) := by decide +kernel
theorem jF_274_60 : j_F 274 60 = some (.goto (-35), 3, 25, 0, .null, .int) := by decide +kernel
theorem jF_274_63 : j_F 274 63 = some (.lload 5, 2, 0, 0, .null, .int) := by decide +kernel
theorem jF_274_65 : j_F 274 65 = some (.lload_n 1, 1, 0, 0, .null, .int) := by decide +kernel
theorem jF_274_66 : j_F 274 66 = some (.lcmp, 1, 0, 0, .null, .int) := by decide +kernel
theorem jF_274_67 : j_F 274 67 = some (.ifCond .ne 6, 3, 73, 0, .null, .int) := by decide +kernel
theorem jF_274_70 : j_F 274 70 = some (.iinc 3 1, 3, 0, 0, .null, .int) := by decide +kernel
theorem jF_274_73 : j_F 274 73 = some (.aload_n 0, 1, 0, 0, .null, .int) := by decide +kernel
theorem jF_274_74 : j_F 274 74 = some (.iload 4, 2, 0, 0, .null, .int) := by decide +kernel
theorem jF_274_76 : j_F 274 76 = some (.invokevirtual 413, 3, 261, 2, .null, .int) := by decide +kernel
theorem jF_274_79 : j_F 274 79 = some (.istore 4, 2, 0, 0, .null, .int) := by decide +kernel
theorem jF_274_81 : j_F 274 81 = some (.goto (-71), 3, 10, 0, .null, .int) := by decide +kernel
theorem jF_274_84 : j_F 274 84 = some (.iload_n 3, 1, 0, 0, .null, .int) := by decide +kernel
theorem jF_274_85 : j_F 274 85 = some (.ireturn, 1, 0, 0, .null, .int) := by decide +kernel
theorem jF_295_0 : j_F 295 0 = some (.aload_n 0, 1, 0, 0, .null, .int) := by decide +kernel
theorem jF_295_1 : j_F 295 1 = some (.iconst (-1), 1, 0, 0, .null, .int) := by decide +kernel
theorem jF_295_2 : j_F 295 2 = some (.putfield 494, 3, 12, 59, .null, .int) := by decide +kernel
theorem jF_295_5 : j_F 295 5 = some (.lload_n 1, 1, 0, 0, .null, .int) := by decide +kernel
theorem jF_295_6 : j_F 295 6 = some (.lconst 0, 1, 0, 0, .null, .int) := by decide +kernel
theorem jF_295_7 : j_F 295 7 = some (.lcmp, 1, 0, 0, .null, .int) := by decide +kernel
theorem jF_295_8 : j_F 295 8 = some (.ifCond .ne 19, 3, 27, 0, .null, .int) := by decide +kernel
theorem jF_295_11 : j_F 295 11 = some (.aload_n 0, 1, 0, 0, .null, .int) := by decide +kernel
theorem jF_295_12 : j_F 295 12 = some (.iconst 0, 1, 0, 0, .null, .int) := by decide +kernel
theorem jF_295_13 : j_F 295 13 = some (.putfield 494, 3, 12, 59, .null, .int) := by decide +kernel
theorem jF_295_16 : j_F 295 16 = some (.aload_n 0, 1, 0, 0, .null, .int) := by decide +kernel
theorem jF_295_17 : j_F 295 17 = some (.iconst (-1), 1, 0, 0, .null, .int) := by decide +kernel
theorem jF_295_18 : j_F 295 18 = some (.putfield 497, 3, 12, 60, .null, .int) := by decide +kernel
theorem jF_295_21 : j_F 295 21 = some (.aload_n 0, 1, 0, 0, .null, .int) := by decide +kernel
theorem jF_295_22 : j_F 295 22 = some (.iconst (-1), 1, 0, 0, .null, .int) := by decide +kernel
theorem jF_295_23 : j_F 295 23 = some (.putfield 500, 3, 12, 61, .null, .int) := by decide +kernel
theorem jF_295_26 : j_F 295 26 = some (.return_, 1, 0, 0, .null, .int) := by decide +kernel
theorem jF_295_27 : j_F 295 27 = some (.iconst 0, 1, 0, 0, .null, .int) := by decide +kernel
theorem jF_295_28 : j_F 295 28 = some (.istore_n 3, 1, 0, 0, .null, .int) := by decide +kernel
theorem jF_295_29 : j_F 295 29 = some (.iload_n 3, 1, 0, 0, .null, .int) := by decide +kernel
theorem jF_295_30 : j_F 295 30 = some (.aload_n 0, 1, 0, 0, .null, .int) := by decide +kernel
theorem jF_295_31 : j_F 295 31 = some (.getfield 478, 3, 12, 56, .null, .int) := by decide +kernel
theorem jF_295_34 : j_F 295 34 = some (.if_icmp .ge 32, 3, 66, 0, .null, .int) := by decide +kernel
theorem jF_295_37 : j_F 295 37 = some (.aload_n 0, 1, 0, 0, .null, .int) := by decide +kernel
theorem jF_295_38 : j_F 295 38 = some (.getfield 121, 3, 12, 54, .null, (.array .long)) := by decide +kernel
theorem jF_295_41 : j_F 295 41 = some (.iload_n 3, 1, 0, 0, .null, .int) := by decide +kernel
theorem jF_295_42 : j_F 295 42 = some (.laload, 1, 0, 0, .null, .int) := by decide +kernel
theorem jF_295_43 : j_F 295 43 = some (.lload_n 1, 1, 0, 0, .null, .int) := by decide +kernel
theorem jF_295_44 : j_F 295 44 = some (.lcmp, 1, 0, 0, .null, .int) := by decide +kernel
theorem jF_295_45 : j_F 295 45 = some (.ifCond .ne 15, 3, 60, 0, .null, .int) := by decide +kernel
theorem jF_295_48 : j_F 295 48 = some (.aload_n 0, 1, 0, 0, .null, .int) := by decide +kernel
theorem jF_295_49 : j_F 295 49 = some (.aload_n 0, 1, 0, 0, .null, .int) := by decide +kernel
theorem jF_295_50 : j_F 295 50 = some (.getfield 124, 3, 12, 55, .null, (.array .int)) := by decide +kernel
theorem jF_295_53 : j_F 295 53 = some (.iload_n 3, 1, 0, 0, .null, .int) := by decide +kernel
theorem jF_295_54 : j_F 295 54 = some (.iaload, 1, 0, 0, .null, .int) := by decide +kernel
theorem jF_295_55 : j_F 295 55 = some (.iload_n 3, 1, 0, 0, .null, .int) := by decide +kernel
theorem jF_295_56 : j_F 295 56 = some (.iconst (-1), 1, 0, 0, .null, .int) := by decide +kernel
theorem jF_295_57 : j_F 295 57 = some (.invokevirtual 503, 3, 296, 4, .null, .int) := by decide +kernel
theorem jF_295_60 : j_F 295 60 = some (.iinc 3 1, 3, 0, 0, .null, .int) := by decide +kernel
theorem jF_295_63 : j_F 295 63 = some (.goto (-34), 3, 29, 0, .null, .int) := by decide +kernel
theorem jF_295_66 : j_F 295 66 = some (.iconst 0, 1, 0, 0, .null, .int) := by decide +kernel
theorem jF_295_67 : j_F 295 67 = some (.istore_n 3, 1, 0, 0, .null, .int) := by decide +kernel
theorem jF_295_68 : j_F 295 68 = some (.iload_n 3, 1, 0, 0, .null, .int) := by decide +kernel
theorem jF_295_69 : j_F 295 69 = some (.aload_n 0, 1, 0, 0, .null, .int) := by decide +kernel
theorem jF_295_70 : j_F 295 70 = some (.getfield 478, 3, 12, 56, .null, .int) := by decide +kernel
theorem jF_295_73 : j_F 295 73 = some (.if_icmp .ge 87, 3, 160, 0, .null, .int) := by decide +kernel
theorem jF_295_76 : j_F 295 76 = some (.aload_n 0, 1, 0, 0, .null, .int) := by decide +kernel
theorem jF_295_77 : j_F 295 77 = some (.getfield 121, 3, 12, 54, .null, (.array .long)) := by decide +kernel
theorem jF_295_80 : j_F 295 80 = some (.iload_n 3, 1, 0, 0, .null, .int) := by decide +kernel
theorem jF_295_81 : j_F 295 81 = some (.laload, 1, 0, 0, .null, .int) := by decide +kernel
theorem jF_295_82 : j_F 295 82 = some (.lload_n 1, 1, 0, 0, .null, .int) := by decide +kernel
theorem jF_295_83 : j_F 295 83 = some (.ldc2_w 407, 3, 0, 0, (.long (-1)), .int) := by decide +kernel
theorem jF_295_86 : j_F 295 86 = some (.lxor, 1, 0, 0, .null, .int) := by decide +kernel
theorem jF_295_87 : j_F 295 87 = some (.land, 1, 0, 0, .null, .int) := by decide +kernel
theorem jF_295_88 : j_F 295 88 = some (.lconst 0, 1, 0, 0, .null, .int) := by decide +kernel
theorem jF_295_89 : j_F 295 89 = some (.lcmp, 1, 0, 0, .null, .int) := by decide +kernel
theorem jF_295_90 : j_F 295 90 = some (.ifCond .eq 6, 3, 96, 0, .null, .int) := by decide +kernel
theorem jF_295_93 : j_F 295 93 = some (.goto 61, 3, 154, 0, .null, .int) := by decide +kernel
theorem jF_295_96 : j_F 295 96 = some (.iload_n 3, 1, 0, 0, .null, .int) := by decide +kernel
theorem jF_295_97 : j_F 295 97 = some (.istore 4, 2, 0, 0, .null, .int) := by decide +kernel
theorem jF_295_99 : j_F 295 99 = some (.iload 4, 2, 0, 0, .null, .int) := by decide +kernel
theorem jF_295_101 : j_F 295 101 = some (.aload_n 0, 1, 0, 0, .null, .int) := by decide +kernel
theorem jF_295_102 : j_F 295 102 = some (.getfield 478, 3, 12, 56, .null, .int) := by decide +kernel
theorem jF_295_105 : j_F 295 105 = some (.if_icmp .ge 49, 3, 154, 0, .null, .int) := by decide +kernel
theorem jF_295_108 : j_F 295 108 = some (.aload_n 0, 1, 0, 0, .null, .int) := by decide +kernel
theorem jF_295_109 : j_F 295 109 = some (.getfield 121, 3, 12, 54, .null, (.array .long)) := by decide +kernel
theorem jF_295_112 : j_F 295 112 = some (.iload_n 3, 1, 0, 0, .null, .int) := by decide +kernel
theorem jF_295_113 : j_F 295 113 = some (.laload, 1, 0, 0, .null, .int) := by decide +kernel
theorem jF_295_114 : j_F 295 114 = some (.aload_n 0, 1, 0, 0, .null, .int) := by decide +kernel
theorem jF_295_115 : j_F 295 115 = some (.getfield 121, 3, 12, 54, .null, (.array .long)) := by decide +kernel
theorem jF_295_118 : j_F 295 118 = some (.iload 4, 2, 0, 0, .null, .int) := by decide +kernel
theorem jF_295_120 : j_F 295 120 = some (.laload, 1, 0, 0, .null, .int) := by decide +kernel
theorem jF_295_121 : j_F 295 121 = some (.lor, 1, 0, 0, .null, .int) := by decide +kernel
theorem jF_295_122 : j_F 295 122 = some (.lload_n 1, 1, 0, 0, .null, .int) := by decide +kernel
theorem jF_295_123 : j_F 295 123 = some (.lcmp, 1, 0, 0, .null, .int) := by decide +kernel
theorem jF_295_124 : j_F 295 124 = some (.ifCond .ne 24, 3, 148, 0, .null, .int) := by decide +kernel
theorem jF_295_127 : j_F 295 127 = some (.aload_n 0, 1, 0, 0, .null, .int) := by decide +kernel
theorem jF_295_128 : j_F 295 128 = some (.aload_n 0, 1, 0, 0, .null, .int) := by decide +kernel
theorem jF_295_129 : j_F 295 129 = some (.getfield 124, 3, 12, 55, .null, (.array .int)) := by decide +kernel
theorem jF_295_132 : j_F 295 132 = some (.iload_n 3, 1, 0, 0, .null, .int) := by decide +kernel
theorem jF_295_133 : j_F 295 133 = some (.iaload, 1, 0, 0, .null, .int) := by decide +kernel
theorem jF_295_134 : j_F 295 134 = some (.aload_n 0, 1, 0, 0, .null, .int) := by decide +kernel
theorem jF_295_135 : j_F 295 135 = some (.getfield 124, 3, 12, 55, .null, (.array .int)) := by decide +kernel
theorem jF_295_138 : j_F 295 138 = some (.iload 4, 2, 0, 0, .null, .int) := by decide +kernel
theorem jF_295_140 : j_F 295 140 = some (.iaload, 1, 0, 0, .null, .int) := by decide +kernel
theorem jF_295_141 : j_F 295 141 = some (.iadd, 1, 0, 0, .null, .int) := by decide +kernel
theorem jF_295_142 : j_F 295 142 = some (.iload_n 3, 1, 0, 0, .null, .int) := by decide +kernel
theorem jF_295_143 : j_F 295 143 = some (.iload 4, 2, 0, 0, .null, .int) := by decide +kernel
theorem jF_295_145 : j_F 295 145 = some (.invokevirtual 503, 3, 296, 4, .null, .int) := by decide +kernel
theorem jF_295_148 : j_F 295 148 = some (.iinc 4 1, 3, 0, 0, .null, .int) := by decide +kernel
theorem jF_295_151 : j_F 295 151 = some (.goto (-52), 3, 99, 0, .null, .int) := by decide +kernel
theorem jF_295_154 : j_F 295 154 = some (.iinc 3 1, 3, 0, 0, .null, .int) := by decide +kernel
theorem jF_295_157 : j_F 295 157 = some (.goto (-89), 3, 68, 0, .null, .int) := by decide +kernel
theorem jF_295_160 : j_F 295 160 = some (.return_, 1, 0, 0, .null, .int) := by decide +kernel
theorem jF_296_0 : j_F 296 0 = some (.aload_n 0, 1, 0, 0, .null, .int) := by decide +kernel
theorem jF_296_1 : j_F 296 1 = some (.getfield 494, 3, 12, 59, .null, .int) := by decide +kernel
theorem jF_296_4 : j_F 296 4 = some (.iconst (-1), 1, 0, 0, .null, .int) := by decide +kernel
theorem jF_296_5 : j_F 296 5 = some (.if_icmp .eq 12, 3, 17, 0, .null, .int) := by decide +kernel
theorem jF_296_8 : j_F 296 8 = some (.iload_n 1, 1, 0, 0, .null, .int) := by decide +kernel
theorem jF_296_9 : j_F 296 9 = some (.aload_n 0, 1, 0, 0, .null, .int) := by decide +kernel
theorem jF_296_10 : j_F 296 10 = some (.getfield 494, 3, 12, 59, .null, .int) := by decide +kernel
theorem jF_296_13 : j_F 296 13 = some (.if_icmp .lt 4, 3, 17, 0, .null, .int) := by decide +kernel
theorem jF_296_16 : j_F 296 16 = some (.return_, 1, 0, 0, .null, .int) := by decide +kernel
theorem jF_296_17 : j_F 296 17 = some (.aload_n 0, 1, 0, 0, .null, .int) := by decide +kernel
theorem jF_296_18 : j_F 296 18 = some (.iload_n 1, 1, 0, 0, .null, .int) := by decide +kernel
theorem jF_296_19 : j_F 296 19 = some (.putfield 494, 3, 12, 59, .null, .int) := by decide +kernel
theorem jF_296_22 : j_F 296 22 = some (.aload_n 0, 1, 0, 0, .null, .int) := by decide +kernel
theorem jF_296_23 : j_F 296 23 = some (.iload_n 2, 1, 0, 0, .null, .int) := by decide +kernel
theorem jF_296_24 : j_F 296 24 = some (.putfield 497, 3, 12, 60, .null, .int) := by decide +kernel
theorem jF_296_27 : j_F 296 27 = some (.aload_n 0, 1, 0, 0, .null, .int) := by decide +kernel
theorem jF_296_28 : j_F 296 28 = some (.iload_n 3, 1, 0, 0, .null, .int) := by decide +kernel
theorem jF_296_29 : j_F 296 29 = some (.putfield 500, 3, 12, 61, .null, .int) := by decide +kernel
theorem jF_296_32 : j_F 296 32 = some (.return_, 1, 0, 0, .null, .int) := by decide +kernel
theorem jF_299_0 : j_F 299 0 = some (.aload_n 0, 1, 0, 0, .null, .int) := by decide +kernel
theorem jF_299_1 : j_F 299 1 = some (.iconst 1, 1, 0, 0, .null, .int) := by decide +kernel
theorem jF_299_2 : j_F 299 2 = some (.invokevirtual 512, 3, 300, 2, .null, .int) := by decide +kernel
theorem jF_299_5 : j_F 299 5 = some (.aload_n 0, 1, 0, 0, .null, .int) := by decide +kernel
theorem jF_299_6 : j_F 299 6 = some (.getfield 121, 3, 12, 54, .null, (.array .long)) := by decide +kernel
theorem jF_299_9 : j_F 299 9 = some (.iload_n 1, 1, 0, 0, .null, .int) := by decide +kernel
theorem jF_299_10 : j_F 299 10 = some (.laload, 1, 0, 0, .null, .int) := by decide +kernel
theorem jF_299_11 : j_F 299 11 = some (.ldc2_w 407, 3, 0, 0, (.long (-1)), .int) := by decide +kernel
theorem jF_299_14 : j_F 299 14 = some (.lxor, 1, 0, 0, .null, .int) := by decide +kernel
theorem jF_299_15 : j_F 299 15 = some (.land, 1, 0, 0, .null, .int) := by decide +kernel
theorem jF_299_16 : j_F 299 16 = some (.lconst 0, 1, 0, 0, .null, .int) := by decide +kernel
theorem jF_299_17 : j_F 299 17 = some (.lcmp, 1, 0, 0, .null, .int) := by decide +kernel
theorem jF_299_18 : j_F 299 18 = some (.ifCond .ne 24, 3, 42, 0, .null, .int) := by decide +kernel
theorem jF_299_21 : j_F 299 21 = some (.aload_n 0, 1, 0, 0, .null, .int) := by decide +kernel
theorem jF_299_22 : j_F 299 22 = some (.iconst 0, 1, 0, 0, .null, .int) := by decide +kernel
theorem jF_299_23 : j_F 299 23 = some (.invokevirtual 512, 3, 300, 2, .null, .int) := by decide +kernel
theorem jF_299_26 : j_F 299 26 = some (.aload_n 0, 1, 0, 0, .null, .int) := by decide +kernel
theorem jF_299_27 : j_F 299 27 = some (.getfield 121, 3, 12, 54, .null, (.array .long)) := by decide +kernel
theorem jF_299_30 : j_F 299 30 = some (.iload_n 1, 1, 0, 0, .null, .int) := by decide +kernel
theorem jF_299_31 : j_F 299 31 = some (.laload, 1, 0, 0, .null, .int) := by decide +kernel
theorem jF_299_32 : j_F 299 32 = some (.land, 1, 0, 0, .null, .int) := by decide +kernel
theorem jF_299_33 : j_F 299 33 = some (.lconst 0, 1, 0, 0, .null, .int) := by decide +kernel
theorem jF_299_34 : j_F 299 34 = some (.lcmp, 1, 0, 0, .null, .int) := by decide +kernel
theorem jF_299_35 : j_F 299 35 = some (.ifCond .ne 7, 3, 42, 0, .null, .int) := by decide +kernel
theorem jF_299_38 : j_F 299 38 = some (.iconst 1, 1, 0, 0, .null, .int) := by decide +kernel
theorem jF_299_39 : j_F 299 39 = some (.goto 4, 3, 43, 0, .null, .int) := by decide +kernel
theorem jF_299_42 : j_F 299 42 = some (.iconst 0, 1, 0, 0, .null, .int) := by decide +kernel
theorem jF_299_43 : j_F 299 43 = some (.ireturn, 1, 0, 0, .null, .boolean) := by decide +kernel
theorem jF_300_0 : j_F 300 0 = some (.lconst 0, 1, 0, 0, .null, .int) := by decide +kernel
theorem jF_300_1 : j_F 300 1 = some (.lstore_n 2, 1, 0, 0, .null, .int) := by decide +kernel
theorem jF_300_2 : j_F 300 2 = some (.iconst 0, 1, 0, 0, .null, .int) := by decide +kernel
theorem jF_300_3 : j_F 300 3 = some (.istore 4, 2, 0, 0, .null, .int) := by decide +kernel
theorem jF_300_5 : j_F 300 5 = some (.iload 4, 2, 0, 0, .null, .int) := by decide +kernel
theorem jF_300_7 : j_F 300 7 = some (.aload_n 0, 1, 0, 0, .null, .int) := by decide +kernel
theorem jF_300_8 : j_F 300 8 = some (.getfield 91, 3, 12, 36, .null, (.array .int)) := by decide +kernel
theorem jF_300_11 : j_F 300 11 = some (.iconst 5, 1, 0, 0, .null, .int) := by decide +kernel
theorem jF_300_12 : j_F 300 12 = some (.iaload, 1, 0, 0, .null, .int) := by decide +kernel
theorem jF_300_13 : j_F 300 13 = some (.if_icmp .ge 42, 3, 55, 0, .null, .int) := by decide +kernel
theorem jF_300_16 : j_F 300 16 = some (.aload_n 0, 1, 0, 0, .null, .int) := by decide +kernel
theorem jF_300_17 : j_F 300 17 = some (.getfield 88, 3, 12, 35, .null, (.array .int)) := by decide +kernel
theorem jF_300_20 : j_F 300 20 = some (.sipush 348, 3, 0, 0, .null, .int) := by decide +kernel
theorem jF_300_23 : j_F 300 23 = some (.bipush 6, 2, 0, 0, .null, .int) := by decide +kernel
theorem jF_300_25 : j_F 300 25 = some (.iload 4, 2, 0, 0, .null, .int) := by decide +kernel
theorem jF_300_27 : j_F 300 27 = some (.imul, 1, 0, 0, .null, .int) := by decide +kernel
theorem jF_300_28 : j_F 300 28 = some (.iadd, 1, 0, 0, .null, .int) := by decide +kernel
theorem jF_300_29 : j_F 300 29 = some (.iconst 3, 1, 0, 0, .null, .int) := by decide +kernel
theorem jF_300_30 : j_F 300 30 = some (.iadd, 1, 0, 0, .null, .int) := by decide +kernel
theorem jF_300_31 : j_F 300 31 = some (.iaload, 1, 0, 0, .null, .int) := by decide +kernel
theorem jF_300_32 : j_F 300 32 = some (.iload_n 1, 1, 0, 0, .null, .int) := by decide +kernel
theorem jF_300_33 : j_F 300 33 = some (.if_icmp .ne 16, 3, 49, 0, .null, .int) := by decide +kernel
theorem jF_300_36 : j_F 300 36 = some (.lload_n 2, 1, 0, 0, .null, .int) := by decide +kernel
theorem jF_300_37 : j_F 300 37 = some (.aload_n 0, 1, 0, 0, .null, .int) := by decide +kernel
theorem jF_300_38 : j_F 300 38 = some (.getfield 100, 3, 12, 41, .null, (.array .long)) := by decide +kernel
theorem jF_300_41 : j_F 300 41 = some (.bipush 24, 2, 0, 0, .null, .int) := by decide +kernel
theorem jF_300_43 : j_F 300 43 = some (.iload 4, 2, 0, 0, .null, .int) := by decide +kernel
theorem jF_300_45 : j_F 300 45 = some (.iadd, 1, 0, 0, .null, .int) := by decide +kernel
theorem jF_300_46 : j_F 300 46 = some (.laload, 1, 0, 0, .null, .int) := by decide +kernel
theorem jF_300_47 : j_F 300 47 = some (.lor, 1, 0, 0, .null, .int) := by decide +kernel
theorem jF_300_48 : j_F 300 48 = some (.lstore_n 2, 1, 0, 0, .null, .int) := by decide +kernel
theorem jF_300_49 : j_F 300 49 = some (.iinc 4 1, 3, 0, 0, .null, .int) := by decide +kernel
theorem jF_300_52 : j_F 300 52 = some (.goto (-47), 3, 5, 0, .null, .int) := by decide +kernel
theorem jF_300_55 : j_F 300 55 = some (.lload_n 2, 1, 0, 0, .null, .int) := by decide +kernel
theorem jF_300_56 : j_F 300 56 = some (.lreturn, 1, 0, 0, .null, .int) := by decide +kernel
theorem jF_302_0 : j_F 302 0 = some (.aload_n 0, 1, 0, 0, .null, .int) := by decide +kernel
theorem jF_302_1 : j_F 302 1 = some (.aload_n 0, 1, 0, 0, .null, .int) := by decide +kernel
theorem jF_302_2 : j_F 302 2 = some (.getfield 401, 3, 12, 49, .null, .int) := by decide +kernel
theorem jF_302_5 : j_F 302 5 = some (.putfield 518, 3, 12, 65, .null, .int) := by decide +kernel
theorem jF_302_8 : j_F 302 8 = some (.iconst 0, 1, 0, 0, .null, .int) := by decide +kernel
theorem jF_302_9 : j_F 302 9 = some (.istore_n 1, 1, 0, 0, .null, .int) := by decide +kernel
theorem jF_302_10 : j_F 302 10 = some (.iload_n 1, 1, 0, 0, .null, .int) := by decide +kernel
theorem jF_302_11 : j_F 302 11 = some (.aload_n 0, 1, 0, 0, .null, .int) := by decide +kernel
theorem jF_302_12 : j_F 302 12 = some (.getfield 401, 3, 12, 49, .null, .int) := by decide +kernel
theorem jF_302_15 : j_F 302 15 = some (.if_icmp .ge 21, 3, 36, 0, .null, .int) := by decide +kernel
theorem jF_302_18 : j_F 302 18 = some (.aload_n 0, 1, 0, 0, .null, .int) := by decide +kernel
theorem jF_302_19 : j_F 302 19 = some (.getfield 133, 3, 12, 64, .null, (.array .int)) := by decide +kernel
theorem jF_302_22 : j_F 302 22 = some (.iload_n 1, 1, 0, 0, .null, .int) := by decide +kernel
theorem jF_302_23 : j_F 302 23 = some (.aload_n 0, 1, 0, 0, .null, .int) := by decide +kernel
theorem jF_302_24 : j_F 302 24 = some (.getfield 112, 3, 12, 48, .null, (.array .int)) := by decide +kernel
theorem jF_302_27 : j_F 302 27 = some (.iload_n 1, 1, 0, 0, .null, .int) := by decide +kernel
theorem jF_302_28 : j_F 302 28 = some (.iaload, 1, 0, 0, .null, .int) := by decide +kernel
theorem jF_302_29 : j_F 302 29 = some (.iastore, 1, 0, 0, .null, .int) := by decide +kernel
theorem jF_302_30 : j_F 302 30 = some (.iinc 1 1, 3, 0, 0, .null, .int) := by decide +kernel
theorem jF_302_33 : j_F 302 33 = some (.goto (-23), 3, 10, 0, .null, .int) := by decide +kernel
theorem jF_302_36 : j_F 302 36 = some (.return_, 1, 0, 0, .null, .int) := by decide +kernel
theorem jF_303_0 : j_F 303 0 = some (.aload_n 0, 1, 0, 0, .null, .int) := by decide +kernel
theorem jF_303_1 : j_F 303 1 = some (.getfield 401, 3, 12, 49, .null, .int) := by decide +kernel
theorem jF_303_4 : j_F 303 4 = some (.aload_n 0, 1, 0, 0, .null, .int) := by decide +kernel
theorem jF_303_5 : j_F 303 5 = some (.getfield 518, 3, 12, 65, .null, .int) := by decide +kernel
theorem jF_303_8 : j_F 303 8 = some (.if_icmp .ge 10, 3, 18, 0, .null, .int) := by decide +kernel
theorem jF_303_11 : j_F 303 11 = some (.aload_n 0, 1, 0, 0, .null, .int) := by decide +kernel
theorem jF_303_12 : j_F 303 12 = some (.getfield 401, 3, 12, 49, .null, .int) := by decide +kernel
theorem jF_303_15 : j_F 303 15 = some (.goto 7, 3, 22, 0, .null, .int) := by decide +kernel
theorem jF_303_18 : j_F 303 18 = some (.aload_n 0, 1, 0, 0, .null, .int) := by decide +kernel
theorem jF_303_19 : j_F 303 19 = some (.getfield 518, 3, 12, 65, .null, .int) := by decide +kernel
theorem jF_303_22 : j_F 303 22 = some (.istore_n 1, 1, 0, 0, .null, .int) := by decide +kernel
theorem jF_303_23 : j_F 303 23 = some (.aload_n 0, 1, 0, 0, .null, .int) := by decide +kernel
theorem jF_303_24 : j_F 303 24 = some (.getfield 401, 3, 12, 49, .null, .int) := by decide +kernel
theorem jF_303_27 : j_F 303 27 = some (.aload_n 0, 1, 0, 0, .null, .int) := by decide +kernel
theorem jF_303_28 : j_F 303 28 = some (.getfield 518, 3, 12, 65, .null, .int) := by decide +kernel
theorem jF_303_31 : j_F 303 31 = some (.iadd, 1, 0, 0, .null, .int) := by decide +kernel
theorem jF_303_32 : j_F 303 32 = some (.iconst 2, 1, 0, 0, .null, .int) := by decide +kernel
theorem jF_303_33 : j_F 303 33 = some (.iload_n 1, 1, 0, 0, .null, .int) := by decide +kernel
theorem jF_303_34 : j_F 303 34 = some (.imul, 1, 0, 0, .null, .int) := by decide +kernel
theorem jF_303_35 : j_F 303 35 = some (.isub, 1, 0, 0, .null, .int) := by decide +kernel
theorem jF_303_36 : j_F 303 36 = some (.istore_n 2, 1, 0, 0, .null, .int) := by decide +kernel
theorem jF_303_37 : j_F 303 37 = some (.iload_n 2, 1, 0, 0, .null, .int) := by decide +kernel
theorem jF_303_38 : j_F 303 38 = some (.iconst 1, 1, 0, 0, .null, .int) := by decide +kernel
theorem jF_303_39 : j_F 303 39 = some (.if_icmp .le 5, 3, 44, 0, .null, .int) := by decide +kernel
theorem jF_303_42 : j_F 303 42 = some (.iconst 2, 1, 0, 0, .null, .int) := by decide +kernel
theorem jF_303_43 : j_F 303 43 = some (.ireturn, 1, 0, 0, .null, .int) := by decide +kernel
theorem jF_303_44 : j_F 303 44 = some (.iconst 0, 1, 0, 0, .null, .int) := by decide +kernel
theorem jF_303_45 : j_F 303 45 = some (.istore_n 3, 1, 0, 0, .null, .int) := by decide +kernel
theorem jF_303_46 : j_F 303 46 = some (.iload_n 3, 1, 0, 0, .null, .int) := by decide +kernel
theorem jF_303_47 : j_F 303 47 = some (.iload_n 1, 1, 0, 0, .null, .int) := by decide +kernel
theorem jF_303_48 : j_F 303 48 = some (.if_icmp .ge 24, 3, 72, 0, .null, .int) := by decide +kernel
theorem jF_303_51 : j_F 303 51 = some (.aload_n 0, 1, 0, 0, .null, .int) := by decide +kernel
theorem jF_303_52 : j_F 303 52 = some (.getfield 112, 3, 12, 48, .null, (.array .int)) := by decide +kernel
theorem jF_303_55 : j_F 303 55 = some (.iload_n 3, 1, 0, 0, .null, .int) := by decide +kernel
theorem jF_303_56 : j_F 303 56 = some (.iaload, 1, 0, 0, .null, .int) := by decide +kernel
theorem jF_303_57 : j_F 303 57 = some (.aload_n 0, 1, 0, 0, .null, .int) := by decide +kernel
theorem jF_303_58 : j_F 303 58 = some (.getfield 133, 3, 12, 64, .null, (.array .int)) := by decide +kernel
theorem jF_303_61 : j_F 303 61 = some (.iload_n 3, 1, 0, 0, .null, .int) := by decide +kernel
theorem jF_303_62 : j_F 303 62 = some (.iaload, 1, 0, 0, .null, .int) := by decide +kernel
theorem jF_303_63 : j_F 303 63 = some (.if_icmp .ne 9, 3, 72, 0, .null, .int) := by decide +kernel
theorem jF_303_66 : j_F 303 66 = some (.iinc 3 1, 3, 0, 0, .null, .int) := by decide +kernel
theorem jF_303_69 : j_F 303 69 = some (.goto (-23), 3, 46, 0, .null, .int) := by decide +kernel
theorem jF_303_72 : j_F 303 72 = some (.iconst 0, 1, 0, 0, .null, .int) := by decide +kernel
theorem jF_303_73 : j_F 303 73 = some (.istore 4, 2, 0, 0, .null, .int) := by decide +kernel
theorem jF_303_75 : j_F 303 75 = some (.iload 4, 2, 0, 0, .null, .int) := by decide +kernel
theorem jF_303_77 : j_F 303 77 = some (.iload_n 1, 1, 0, 0, .null, .int) := by decide +kernel
theorem jF_303_78 : j_F 303 78 = some (.iload_n 3, 1, 0, 0, .null, .int) := by decide +kernel
theorem jF_303_79 : j_F 303 79 = some (.isub, 1, 0, 0, .null, .int) := by decide +kernel
theorem jF_303_80 : j_F 303 80 = some (.if_icmp .ge 40, 3, 120, 0, .null, .int) := by decide +kernel
theorem jF_303_83 : j_F 303 83 = some (.aload_n 0, 1, 0, 0, .null, .int) := by decide +kernel
theorem jF_303_84 : j_F 303 84 = some (.getfield 112, 3, 12, 48, .null, (.array .int)) := by decide +kernel
theorem jF_303_87 : j_F 303 87 = some (.aload_n 0, 1, 0, 0, .null, .int) := by decide +kernel
theorem jF_303_88 : j_F 303 88 = some (.getfield 401, 3, 12, 49, .null, .int) := by decide +kernel
theorem jF_303_91 : j_F 303 91 = some (.iconst 1, 1, 0, 0, .null, .int) := by decide +kernel
theorem jF_303_92 : j_F 303 92 = some (.isub, 1, 0, 0, .null, .int) := by decide +kernel
theorem jF_303_93 : j_F 303 93 = some (.iload 4, 2, 0, 0, .null, .int) := by decide +kernel
theorem jF_303_95 : j_F 303 95 = some (.isub, 1, 0, 0, .null, .int) := by decide +kernel
theorem jF_303_96 : j_F 303 96 = some (.iaload, 1, 0, 0, .null, .int) := by decide +kernel
theorem jF_303_97 : j_F 303 97 = some (.aload_n 0, 1, 0, 0, .null, .int) := by decide +kernel
theorem jF_303_98 : j_F 303 98 = some (.getfield 133, 3, 12, 64, .null, (.array .int)) := by decide +kernel
theorem jF_303_101 : j_F 303 101 = some (.aload_n 0, 1, 0, 0, .null, .int) := by decide +kernel
theorem jF_303_102 : j_F 303 102 = some (.getfield 518, 3, 12, 65, .null, .int) := by decide +kernel
theorem jF_303_105 : j_F 303 105 = some (.iconst 1, 1, 0, 0, .null, .int) := by decide +kernel
theorem jF_303_106 : j_F 303 106 = some (.isub, 1, 0, 0, .null, .int) := by decide +kernel
theorem jF_303_107 : j_F 303 107 = some (.iload 4, 2, 0, 0, .null, .int) := by decide +kernel
theorem jF_303_109 : j_F 303 109 = some (.isub, 1, 0, 0, .null, .int) := by decide +kernel
theorem jF_303_110 : j_F 303 110 = some (.iaload, 1, 0, 0, .null, .int) := by decide +kernel
theorem jF_303_111 : j_F 303 111 = some (.if_icmp .ne 9, 3, 120, 0, .null, .int) := by decide +kernel
theorem jF_303_114 : j_F 303 114 = some (.iinc 4 1, 3, 0, 0, .null, .int) := by decide +kernel
theorem jF_303_117 : j_F 303 117 = some (.goto (-42), 3, 75, 0, .null, .int) := by decide +kernel
theorem jF_303_120 : j_F 303 120 = some (.iload_n 1, 1, 0, 0, .null, .int) := by decide +kernel
theorem jF_303_121 : j_F 303 121 = some (.iload_n 3, 1, 0, 0, .null, .int) := by decide +kernel
theorem jF_303_122 : j_F 303 122 = some (.isub, 1, 0, 0, .null, .int) := by decide +kernel
theorem jF_303_123 : j_F 303 123 = some (.iload 4, 2, 0, 0, .null, .int) := by decide +kernel
theorem jF_303_125 : j_F 303 125 = some (.isub, 1, 0, 0, .null, .int) := by decide +kernel
theorem jF_303_126 : j_F 303 126 = some (.iload_n 2, 1, 0, 0, .null, .int) := by decide +kernel
theorem jF_303_127 : j_F 303 127 = some (.iadd, 1, 0, 0, .null, .int) := by decide +kernel
theorem jF_303_128 : j_F 303 128 = some (.iconst 1, 1, 0, 0, .null, .int) := by decide +kernel
theorem jF_303_129 : j_F 303 129 = some (.if_icmp .le 7, 3, 136, 0, .null, .int) := by decide +kernel
theorem jF_303_132 : j_F 303 132 = some (.iconst 2, 1, 0, 0, .null, .int) := by decide +kernel
theorem jF_303_133 : j_F 303 133 = some (.goto 11, 3, 144, 0, .null, .int) := by decide +kernel
theorem jF_303_136 : j_F 303 136 = some (.iload_n 1, 1, 0, 0, .null, .int) := by decide +kernel
theorem jF_303_137 : j_F 303 137 = some (.iload_n 3, 1, 0, 0, .null, .int) := by decide +kernel
theorem jF_303_138 : j_F 303 138 = some (.isub, 1, 0, 0, .null, .int) := by decide +kernel
theorem jF_303_139 : j_F 303 139 = some (.iload 4, 2, 0, 0, .null, .int) := by decide +kernel
theorem jF_303_141 : j_F 303 141 = some (.isub, 1, 0, 0, .null, .int) := by decide +kernel
theorem jF_303_142 : j_F 303 142 = some (.iload_n 2, 1, 0, 0, .null, .int) := by decide +kernel
theorem jF_303_143 : j_F 303 143 = some (.iadd, 1, 0, 0, .null, .int) := by decide +kernel
theorem jF_303_144 : j_F 303 144 = some (.ireturn, 1, 0, 0, .null, .int) := by decide +kernel
