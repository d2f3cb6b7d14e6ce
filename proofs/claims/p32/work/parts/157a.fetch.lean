/-! CODE. -/
theorem jF_214_0 : j_F 214 0 = some (.aload_n 0, 1, 0, 0, .null, .int) := by decide +kernel
theorem jF_214_1 : j_F 214 1 = some (.invokevirtual 328, 3, 215, 1, .null, .int) := by decide +kernel
theorem jF_214_4 : j_F 214 4 = some (.aload_n 0, 1, 0, 0, .null, .int) := by decide +kernel
theorem jF_214_5 : j_F 214 5 = some (.iconst 0, 1, 0, 0, .null, .int) := by decide +kernel
theorem jF_214_6 : j_F 214 6 = some (.putfield 302, 3, 12, 39, .null, .int) := by decide +kernel
theorem jF_214_9 : j_F 214 9 = some (.aload_n 0, 1, 0, 0, .null, .int) := by decide +kernel
theorem jF_214_10 : j_F 214 10 = some (.bipush 40, 2, 0, 0, .null, .int) := by decide +kernel
theorem jF_214_12 : j_F 214 12 = some (.putfield 312, 3, 12, 37, .null, .int) := by decide +kernel
theorem jF_214_15 : j_F 214 15 = some (.aload_n 0, 1, 0, 0, .null, .int) := by decide +kernel
theorem jF_214_16 : j_F 214 16 = some (.iconst 0, 1, 0, 0, .null, .int) := by decide +kernel
theorem jF_214_17 : j_F 214 17 = some (.putfield 267, 3, 12, 33, .null, .int) := by decide +kernel
theorem jF_214_20 : j_F 214 20 = some (.iconst 0, 1, 0, 0, .null, .int) := by decide +kernel
theorem jF_214_21 : j_F 214 21 = some (.istore_n 1, 1, 0, 0, .null, .int) := by decide +kernel
theorem jF_214_22 : j_F 214 22 = some (.iload_n 1, 1, 0, 0, .null, .int) := by decide +kernel
theorem jF_214_23 : j_F 214 23 = some (.bipush 18, 2, 0, 0, .null, .int) := by decide +kernel
theorem jF_214_25 : j_F 214 25 = some (.if_icmp .ge 16, 3, 41, 0, .null, .int) := by decide +kernel
theorem jF_214_28 : j_F 214 28 = some (.aload_n 0, 1, 0, 0, .null, .int) := by decide +kernel
theorem jF_214_29 : j_F 214 29 = some (.getfield 75, 3, 12, 29, .null, (.array .long)) := by decide +kernel
theorem jF_214_32 : j_F 214 32 = some (.iload_n 1, 1, 0, 0, .null, .int) := by decide +kernel
theorem jF_214_33 : j_F 214 33 = some (.lconst 0, 1, 0, 0, .null, .int) := by decide +kernel
theorem jF_214_34 : j_F 214 34 = some (.lastore, 1, 0, 0, .null, .int) := by decide +kernel
theorem jF_214_35 : j_F 214 35 = some (.iinc 1 1, 3, 0, 0, .null, .int) := by decide +kernel
theorem jF_214_38 : j_F 214 38 = some (.goto (-16), 3, 22, 0, .null, .int) := by decide +kernel
theorem jF_214_41 : j_F 214 41 = some (.iconst 0, 1, 0, 0, .null, .int) := by decide +kernel
theorem jF_214_42 : j_F 214 42 = some (.istore_n 1, 1, 0, 0, .null, .int) := by decide +kernel
theorem jF_214_43 : j_F 214 43 = some (.iload_n 1, 1, 0, 0, .null, .int) := by decide +kernel
theorem jF_214_44 : j_F 214 44 = some (.iconst 3, 1, 0, 0, .null, .int) := by decide +kernel
theorem jF_214_45 : j_F 214 45 = some (.if_icmp .ge 16, 3, 61, 0, .null, .int) := by decide +kernel
theorem jF_214_48 : j_F 214 48 = some (.aload_n 0, 1, 0, 0, .null, .int) := by decide +kernel
theorem jF_214_49 : j_F 214 49 = some (.getfield 91, 3, 12, 36, .null, (.array .int)) := by decide +kernel
theorem jF_214_52 : j_F 214 52 = some (.iload_n 1, 1, 0, 0, .null, .int) := by decide +kernel
theorem jF_214_53 : j_F 214 53 = some (.iconst 0, 1, 0, 0, .null, .int) := by decide +kernel
theorem jF_214_54 : j_F 214 54 = some (.iastore, 1, 0, 0, .null, .int) := by decide +kernel
theorem jF_214_55 : j_F 214 55 = some (.iinc 1 1, 3, 0, 0, .null, .int) := by decide +kernel
theorem jF_214_58 : j_F 214 58 = some (.goto (-15), 3, 43, 0, .null, .int) := by decide +kernel
theorem jF_214_61 : j_F 214 61 = some (.aload_n 0, 1, 0, 0, .null, .int) := by decide +kernel
theorem jF_214_62 : j_F 214 62 = some (.getfield 212, 3, 12, 5, .null, .int) := by decide +kernel
theorem jF_214_65 : j_F 214 65 = some (.ifCond .ne 18, 3, 83, 0, .null, .int) := by decide +kernel
theorem jF_214_68 : j_F 214 68 = some (.aload_n 0, 1, 0, 0, .null, .int) := by decide +kernel
theorem jF_214_69 : j_F 214 69 = some (.invokevirtual 224, 3, 216, 1, .null, .int) := by decide +kernel
theorem jF_214_72 : j_F 214 72 = some (.iconst (-1), 1, 0, 0, .null, .int) := by decide +kernel
theorem jF_214_73 : j_F 214 73 = some (.if_icmp .eq 10, 3, 83, 0, .null, .int) := by decide +kernel
theorem jF_214_76 : j_F 214 76 = some (.aload_n 0, 1, 0, 0, .null, .int) := by decide +kernel
theorem jF_214_77 : j_F 214 77 = some (.invokevirtual 331, 3, 217, 1, .null, .int) := by decide +kernel
theorem jF_214_80 : j_F 214 80 = some (.goto (-19), 3, 61, 0, .null, .int) := by decide +kernel
theorem jF_214_83 : j_F 214 83 = some (.aload_n 0, 1, 0, 0, .null, .int) := by decide +kernel
theorem jF_214_84 : j_F 214 84 = some (.invokevirtual 334, 3, 240, 1, .null, .int) := by decide +kernel
theorem jF_214_87 : j_F 214 87 = some (.ifCond .ne 5, 3, 92, 0, .null, .int) := by decide +kernel
theorem jF_214_90 : j_F 214 90 = some (.iconst (-1), 1, 0, 0, .null, .int) := by decide +kernel
theorem jF_214_91 : j_F 214 91 = some (.ireturn, 1, 0, 0, .null, .int) := by decide +kernel
theorem jF_214_92 : j_F 214 92 = some (.aload_n 0, 1, 0, 0, .null, .int) := by decide +kernel
theorem jF_214_93 : j_F 214 93 = some (.invokevirtual 337, 3, 241, 1, .null, .int) := by decide +kernel
theorem jF_214_96 : j_F 214 96 = some (.aload_n 0, 1, 0, 0, .null, .int) := by decide +kernel
theorem jF_214_97 : j_F 214 97 = some (.getfield 302, 3, 12, 39, .null, .int) := by decide +kernel
theorem jF_214_100 : j_F 214 100 = some (.ireturn, 1, 0, 0, .null, .int) := by decide +kernel
theorem jF_265_0 : j_F 265 0 = some (.iload_n 1, 1, 0, 0, .null, .int) := by decide +kernel
theorem jF_265_1 : j_F 265 1 = some (.tableswitch 133 0 10 #[59, 59, 59, 65, 101, 106, 111, 111, 111, 123, 128], 59, 0, 0, .null, .int) := by decide +kernel
theorem jF_265_60 : j_F 265 60 = some (.aload_n 0, 1, 0, 0, .null, .int) := by decide +kernel
theorem jF_265_61 : j_F 265 61 = some (.iload_n 1, 1, 0, 0, .null, .int) := by decide +kernel
theorem jF_265_62 : j_F 265 62 = some (.invokevirtual 352, 3, 244, 2, .null, .int) := by decide +kernel
theorem jF_265_65 : j_F 265 65 = some (.ireturn, 1, 0, 0, .null, .int) := by decide +kernel
theorem jF_265_66 : j_F 265 66 = some (.iconst 0, 1, 0, 0, .null, .int) := by decide +kernel
theorem jF_265_67 : j_F 265 67 = some (.istore_n 2, 1, 0, 0, .null, .int) := by decide +kernel
theorem jF_265_68 : j_F 265 68 = some (.bipush 12, 2, 0, 0, .null, .int) := by decide +kernel
theorem jF_265_70 : j_F 265 70 = some (.istore_n 3, 1, 0, 0, .null, .int) := by decide +kernel
theorem jF_265_71 : j_F 265 71 = some (.iload_n 3, 1, 0, 0, .null, .int) := by decide +kernel
theorem jF_265_72 : j_F 265 72 = some (.bipush 18, 2, 0, 0, .null, .int) := by decide +kernel
theorem jF_265_74 : j_F 265 74 = some (.if_icmp .ge 26, 3, 100, 0, .null, .int) := by decide +kernel
theorem jF_265_77 : j_F 265 77 = some (.aload_n 0, 1, 0, 0, .null, .int) := by decide +kernel
theorem jF_265_78 : j_F 265 78 = some (.getfield 75, 3, 12, 29, .null, (.array .long)) := by decide +kernel
theorem jF_265_81 : j_F 265 81 = some (.bipush 18, 2, 0, 0, .null, .int) := by decide +kernel
theorem jF_265_83 : j_F 265 83 = some (.iload_n 3, 1, 0, 0, .null, .int) := by decide +kernel
theorem jF_265_84 : j_F 265 84 = some (.iadd, 1, 0, 0, .null, .int) := by decide +kernel
theorem jF_265_85 : j_F 265 85 = some (.laload, 1, 0, 0, .null, .int) := by decide +kernel
theorem jF_265_86 : j_F 265 86 = some (.lconst 0, 1, 0, 0, .null, .int) := by decide +kernel
theorem jF_265_87 : j_F 265 87 = some (.lcmp, 1, 0, 0, .null, .int) := by decide +kernel
theorem jF_265_88 : j_F 265 88 = some (.ifCond .eq 6, 3, 94, 0, .null, .int) := by decide +kernel
theorem jF_265_91 : j_F 265 91 = some (.iinc 2 1, 3, 0, 0, .null, .int) := by decide +kernel
theorem jF_265_94 : j_F 265 94 = some (.iinc 3 1, 3, 0, 0, .null, .int) := by decide +kernel
theorem jF_265_97 : j_F 265 97 = some (.goto (-26), 3, 71, 0, .null, .int) := by decide +kernel
theorem jF_265_100 : j_F 265 100 = some (.iload_n 2, 1, 0, 0, .null, .int) := by decide +kernel
theorem jF_265_101 : j_F 265 101 = some (.ireturn, 1, 0, 0, .null, .int) := by decide +kernel
theorem jF_265_102 : j_F 265 102 = some (.aload_n 0, 1, 0, 0, .null, .int) := by decide +kernel
theorem jF_265_103 : j_F 265 103 = some (.getfield 94, 3, 12, 38, .null, .int) := by decide +kernel
theorem jF_265_106 : j_F 265 106 = some (.ireturn, 1, 0, 0, .null, .int) := by decide +kernel
theorem jF_265_107 : j_F 265 107 = some (.aload_n 0, 1, 0, 0, .null, .int) := by decide +kernel
theorem jF_265_108 : j_F 265 108 = some (.getfield 340, 3, 12, 34, .null, .int) := by decide +kernel
theorem jF_265_111 : j_F 265 111 = some (.ireturn, 1, 0, 0, .null, .int) := by decide +kernel
theorem jF_265_112 : j_F 265 112 = some (.aload_n 0, 1, 0, 0, .null, .int) := by decide +kernel
theorem jF_265_113 : j_F 265 113 = some (.getfield 91, 3, 12, 36, .null, (.array .int)) := by decide +kernel
theorem jF_265_116 : j_F 265 116 = some (.iconst 3, 1, 0, 0, .null, .int) := by decide +kernel
theorem jF_265_117 : j_F 265 117 = some (.iload_n 1, 1, 0, 0, .null, .int) := by decide +kernel
theorem jF_265_118 : j_F 265 118 = some (.iadd, 1, 0, 0, .null, .int) := by decide +kernel
theorem jF_265_119 : j_F 265 119 = some (.bipush 6, 2, 0, 0, .null, .int) := by decide +kernel
theorem jF_265_121 : j_F 265 121 = some (.isub, 1, 0, 0, .null, .int) := by decide +kernel
theorem jF_265_122 : j_F 265 122 = some (.iaload, 1, 0, 0, .null, .int) := by decide +kernel
theorem jF_265_123 : j_F 265 123 = some (.ireturn, 1, 0, 0, .null, .int) := by decide +kernel
theorem jF_265_124 : j_F 265 124 = some (.aload_n 0, 1, 0, 0, .null, .int) := by decide +kernel
theorem jF_265_125 : j_F 265 125 = some (.invokevirtual 358, 3, 243, 1, .null, .int) := by decide +kernel
theorem jF_265_128 : j_F 265 128 = some (.ireturn, 1, 0, 0, .null, .int) := by decide +kernel
theorem jF_265_129 : j_F 265 129 = some (.aload_n 0, 1, 0, 0, .null, .int) := by decide +kernel
theorem jF_265_130 : j_F 265 130 = some (.getfield 343, 3, 12, 52, .null, .int) := by decide +kernel
theorem jF_265_133 : j_F 265 133 = some (.ireturn, 1, 0, 0, .null, .int) := by decide +kernel
theorem jF_265_134 : j_F 265 134 = some (.iconst (-1), 1, 0, 0, .null, .int) := by decide +kernel
theorem jF_265_135 : j_F 265 135 = some (.ireturn, 1, 0, 0, .null, .int) := by decide +kernel
theorem jF_266_0 : j_F 266 0 = some (.aload_n 0, 1, 0, 0, .null, .int) := by decide +kernel
theorem jF_266_1 : j_F 266 1 = some (.iload_n 1, 1, 0, 0, .null, .int) := by decide +kernel
theorem jF_266_2 : j_F 266 2 = some (.invokevirtual 427, 3, 267, 2, .null, .int) := by decide +kernel
theorem jF_266_5 : j_F 266 5 = some (.lstore_n 3, 1, 0, 0, .null, .int) := by decide +kernel
theorem jF_266_6 : j_F 266 6 = some (.lload_n 3, 1, 0, 0, .null, .int) := by decide +kernel
theorem jF_266_7 : j_F 266 7 = some (.lconst 0, 1, 0, 0, .null, .int) := by decide +kernel
theorem jF_266_8 : j_F 266 8 = some (.lcmp, 1, 0, 0, .null, .int) := by decide +kernel
theorem jF_266_9 : j_F 266 9 = some (.ifCond .eq 15, 3, 24, 0, .null, .int) := by decide +kernel
theorem jF_266_12 : j_F 266 12 = some (.iload_n 2, 1, 0, 0, .null, .int) := by decide +kernel
theorem jF_266_13 : j_F 266 13 = some (.i2l, 1, 0, 0, .null, .int) := by decide +kernel
theorem jF_266_14 : j_F 266 14 = some (.lconst 0, 1, 0, 0, .null, .int) := by decide +kernel
theorem jF_266_15 : j_F 266 15 = some (.ldc2_w 430, 3, 0, 0, (.long (5)), .int) := by decide +kernel
theorem jF_266_18 : j_F 266 18 = some (.invokestatic 252, 3, 232, 3, .null, .int) := by decide +kernel
theorem jF_266_21 : j_F 266 21 = some (.ifCond .ne 5, 3, 26, 0, .null, .int) := by decide +kernel
theorem jF_266_24 : j_F 266 24 = some (.iconst (-1), 1, 0, 0, .null, .int) := by decide +kernel
theorem jF_266_25 : j_F 266 25 = some (.ireturn, 1, 0, 0, .null, .int) := by decide +kernel
theorem jF_266_26 : j_F 266 26 = some (.iconst 0, 1, 0, 0, .null, .int) := by decide +kernel
theorem jF_266_27 : j_F 266 27 = some (.istore 5, 2, 0, 0, .null, .int) := by decide +kernel
theorem jF_266_29 : j_F 266 29 = some (.lload_n 3, 1, 0, 0, .null, .int) := by decide +kernel
theorem jF_266_30 : j_F 266 30 = some (.lstore 6, 2, 0, 0, .null, .int) := by decide +kernel
theorem jF_266_32 : j_F 266 32 = some (.lload 6, 2, 0, 0, .null, .int) := by decide +kernel
theorem jF_266_34 : j_F 266 34 = some (.lconst 0, 1, 0, 0, .null, .int) := by decide +kernel
theorem jF_266_35 : j_F 266 35 = some (.lcmp, 1, 0, 0, .null, .int) := by decide +kernel
theorem jF_266_36 : j_F 266 36 = some (.ifCond .le 17, 3, 53, 0, .null, .int) := by decide +kernel
theorem jF_266_39 : j_F 266 39 = some (.iinc 5 1, 3, 0, 0, .null, .int) := by decide +kernel
theorem jF_266_42 : j_F 266 42 = some (.lload 6, 2, 0, 0, .null, .int) := by decide +kernel
theorem jF_266_44 : j_F 266 44 = some (.ldc2_w 263, 3, 0, 0, (.long (27)), .int) := by decide +kernel
theorem jF_266_47 : j_F 266 47 = some (.ldiv, 1, 0, 0, .null, .int) := by decide +kernel
theorem jF_266_48 : j_F 266 48 = some (.lstore 6, 2, 0, 0, .null, .int) := by decide +kernel
theorem jF_266_50 : j_F 266 50 = some (.goto (-18), 3, 32, 0, .null, .int) := by decide +kernel
theorem jF_266_53 : j_F 266 53 = some (.iload_n 2, 1, 0, 0, .null, .int) := by decide +kernel
theorem jF_266_54 : j_F 266 54 = some (.iload 5, 2, 0, 0, .null, .int) := by decide +kernel
theorem jF_266_56 : j_F 266 56 = some (.if_icmp .lt 5, 3, 61, 0, .null, .int) := by decide +kernel
theorem jF_266_59 : j_F 266 59 = some (.iconst 0, 1, 0, 0, .null, .int) := by decide +kernel
theorem jF_266_60 : j_F 266 60 = some (.ireturn, 1, 0, 0, .null, .int) := by decide +kernel
theorem jF_266_61 : j_F 266 61 = some (.iload 5, 2, 0, 0, .null, .int) := by decide +kernel
theorem jF_266_63 : j_F 266 63 = some (.iconst 1, 1, 0, 0, .null, .int) := by decide +kernel
theorem jF_266_64 : j_F 266 64 = some (.isub, 1, 0, 0, .null, .int) := by decide +kernel
theorem jF_266_65 : j_F 266 65 = some (.istore 6, 2, 0, 0, .null, .int) := by decide +kernel
theorem jF_266_67 : j_F 266 67 = some (.iload 6, 2, 0, 0, .null, .int) := by decide +kernel
theorem jF_266_69 : j_F 266 69 = some (.iload_n 2, 1, 0, 0, .null, .int) := by decide +kernel
theorem jF_266_70 : j_F 266 70 = some (.if_icmp .le 15, 3, 85, 0, .null, .int) := by decide +kernel
theorem jF_266_73 : j_F 266 73 = some (.lload_n 3, 1, 0, 0, .null, .int) := by decide +kernel
theorem jF_266_74 : j_F 266 74 = some (.ldc2_w 263, 3, 0, 0, (.long (27)), .int) := by decide +kernel
theorem jF_266_77 : j_F 266 77 = some (.ldiv, 1, 0, 0, .null, .int) := by decide +kernel
theorem jF_266_78 : j_F 266 78 = some (.lstore_n 3, 1, 0, 0, .null, .int) := by decide +kernel
theorem jF_266_79 : j_F 266 79 = some (.iinc 6 (-1), 3, 0, 0, .null, .int) := by decide +kernel
theorem jF_266_82 : j_F 266 82 = some (.goto (-15), 3, 67, 0, .null, .int) := by decide +kernel
theorem jF_266_85 : j_F 266 85 = some (.lload_n 3, 1, 0, 0, .null, .int) := by decide +kernel
theorem jF_266_86 : j_F 266 86 = some (.ldc2_w 263, 3, 0, 0, (.long (27)), .int) := by decide +kernel
theorem jF_266_89 : j_F 266 89 = some (.lrem, 1, 0, 0, .null, .int) := by decide +kernel
theorem jF_266_90 : j_F 266 90 = some (.l2i, 1, 0, 0, .null, .int) := by decide +kernel
theorem jF_266_91 : j_F 266 91 = some (.ireturn, 1, 0, 0, .null, .int) := by decide +kernel
theorem jF_267_0 : j_F 267 0 = some (.iload_n 1, 1, 0, 0, .null, .int) := by decide +kernel
theorem jF_267_1 : j_F 267 1 = some (.i2l, 1, 0, 0, .null, .int) := by decide +kernel
theorem jF_267_2 : j_F 267 2 = some (.lconst 0, 1, 0, 0, .null, .int) := by decide +kernel
theorem jF_267_3 : j_F 267 3 = some (.ldc2_w 425, 3, 0, 0, (.long (17)), .int) := by decide +kernel
theorem jF_267_6 : j_F 267 6 = some (.invokestatic 252, 3, 232, 3, .null, .int) := by decide +kernel
theorem jF_267_9 : j_F 267 9 = some (.ifCond .eq 13, 3, 22, 0, .null, .int) := by decide +kernel
theorem jF_267_12 : j_F 267 12 = some (.aload_n 0, 1, 0, 0, .null, .int) := by decide +kernel
theorem jF_267_13 : j_F 267 13 = some (.getfield 75, 3, 12, 29, .null, (.array .long)) := by decide +kernel
theorem jF_267_16 : j_F 267 16 = some (.bipush 18, 2, 0, 0, .null, .int) := by decide +kernel
theorem jF_267_18 : j_F 267 18 = some (.iload_n 1, 1, 0, 0, .null, .int) := by decide +kernel
theorem jF_267_19 : j_F 267 19 = some (.iadd, 1, 0, 0, .null, .int) := by decide +kernel
theorem jF_267_20 : j_F 267 20 = some (.laload, 1, 0, 0, .null, .int) := by decide +kernel
theorem jF_267_21 : j_F 267 21 = some (.lreturn, 1, 0, 0, .null, .int) := by decide +kernel
theorem jF_267_22 : j_F 267 22 = some (.iload_n 1, 1, 0, 0, .null, .int) := by decide +kernel
theorem jF_267_23 : j_F 267 23 = some (.bipush 20, 2, 0, 0, .null, .int) := by decide +kernel
theorem jF_267_25 : j_F 267 25 = some (.isub, 1, 0, 0, .null, .int) := by decide +kernel
theorem jF_267_26 : j_F 267 26 = some (.i2l, 1, 0, 0, .null, .int) := by decide +kernel
theorem jF_267_27 : j_F 267 27 = some (.lconst 0, 1, 0, 0, .null, .int) := by decide +kernel
theorem jF_267_28 : j_F 267 28 = some (.aload_n 0, 1, 0, 0, .null, .int) := by decide +kernel
theorem jF_267_29 : j_F 267 29 = some (.getfield 340, 3, 12, 34, .null, .int) := by decide +kernel
theorem jF_267_32 : j_F 267 32 = some (.iconst 1, 1, 0, 0, .null, .int) := by decide +kernel
theorem jF_267_33 : j_F 267 33 = some (.isub, 1, 0, 0, .null, .int) := by decide +kernel
theorem jF_267_34 : j_F 267 34 = some (.i2l, 1, 0, 0, .null, .int) := by decide +kernel
theorem jF_267_35 : j_F 267 35 = some (.invokestatic 252, 3, 232, 3, .null, .int) := by decide +kernel
theorem jF_267_38 : j_F 267 38 = some (.ifCond .eq 17, 3, 55, 0, .null, .int) := by decide +kernel
theorem jF_267_41 : j_F 267 41 = some (.aload_n 0, 1, 0, 0, .null, .int) := by decide +kernel
theorem jF_267_42 : j_F 267 42 = some (.getfield 82, 3, 12, 31, .null, (.array .long)) := by decide +kernel
theorem jF_267_45 : j_F 267 45 = some (.iconst 5, 1, 0, 0, .null, .int) := by decide +kernel
theorem jF_267_46 : j_F 267 46 = some (.iload_n 1, 1, 0, 0, .null, .int) := by decide +kernel
theorem jF_267_47 : j_F 267 47 = some (.iadd, 1, 0, 0, .null, .int) := by decide +kernel
theorem jF_267_48 : j_F 267 48 = some (.bipush 20, 2, 0, 0, .null, .int) := by decide +kernel
theorem jF_267_50 : j_F 267 50 = some (.isub, 1, 0, 0, .null, .int) := by decide +kernel
theorem jF_267_51 : j_F 267 51 = some (.laload, 1, 0, 0, .null, .int) := by decide +kernel
theorem jF_267_52 : j_F 267 52 = some (.goto 4, 3, 56, 0, .null, .int) := by decide +kernel
theorem jF_267_55 : j_F 267 55 = some (.lconst 0, 1, 0, 0, .null, .int) := by decide +kernel
theorem jF_267_56 : j_F 267 56 = some (.lreturn, 1, 0, 0, .null, .int) := by decide +kernel
theorem jF_297_0 : j_F 297 0 = some (.aload_n 0, 1, 0, 0, .null, .int) := by decide +kernel
theorem jF_297_1 : j_F 297 1 = some (.getfield 478, 3, 12, 56, .null, .int) := by decide +kernel
theorem jF_297_4 : j_F 297 4 = some (.ireturn, 1, 0, 0, .null, .int) := by decide +kernel
theorem jF_357_0 : j_F 357 0 = some (.aload_n 0, 1, 0, 0, .null, .int) := by decide +kernel
theorem jF_357_1 : j_F 357 1 = some (.getfield 209, 3, 12, 1, .null, .int) := by decide +kernel
theorem jF_357_4 : j_F 357 4 = some (.istore_n 1, 1, 0, 0, .null, .int) := by decide +kernel
theorem jF_357_5 : j_F 357 5 = some (.aload_n 0, 1, 0, 0, .null, .int) := by decide +kernel
theorem jF_357_6 : j_F 357 6 = some (.iconst 0, 1, 0, 0, .null, .int) := by decide +kernel
theorem jF_357_7 : j_F 357 7 = some (.putfield 209, 3, 12, 1, .null, .int) := by decide +kernel
theorem jF_357_10 : j_F 357 10 = some (.iload_n 1, 1, 0, 0, .null, .int) := by decide +kernel
theorem jF_357_11 : j_F 357 11 = some (.iconst 2, 1, 0, 0, .null, .int) := by decide +kernel
theorem jF_357_12 : j_F 357 12 = some (.if_icmp .le 37, 3, 49, 0, .null, .int) := by decide +kernel
theorem jF_357_15 : j_F 357 15 = some (.aload_n 0, 1, 0, 0, .null, .int) := by decide +kernel
theorem jF_357_16 : j_F 357 16 = some (.getfield 7, 3, 12, 0, .null, (.array .int)) := by decide +kernel
theorem jF_357_19 : j_F 357 19 = some (.iload_n 1, 1, 0, 0, .null, .int) := by decide +kernel
theorem jF_357_20 : j_F 357 20 = some (.iconst 1, 1, 0, 0, .null, .int) := by decide +kernel
theorem jF_357_21 : j_F 357 21 = some (.isub, 1, 0, 0, .null, .int) := by decide +kernel
theorem jF_357_22 : j_F 357 22 = some (.iaload, 1, 0, 0, .null, .int) := by decide +kernel
theorem jF_357_23 : j_F 357 23 = some (.aload_n 0, 1, 0, 0, .null, .int) := by decide +kernel
theorem jF_357_24 : j_F 357 24 = some (.getfield 7, 3, 12, 0, .null, (.array .int)) := by decide +kernel
theorem jF_357_27 : j_F 357 27 = some (.iload_n 1, 1, 0, 0, .null, .int) := by decide +kernel
theorem jF_357_28 : j_F 357 28 = some (.iconst 1, 1, 0, 0, .null, .int) := by decide +kernel
theorem jF_357_29 : j_F 357 29 = some (.isub, 1, 0, 0, .null, .int) := by decide +kernel
theorem jF_357_30 : j_F 357 30 = some (.invokestatic 697, 3, 355, 2, .null, .int) := by decide +kernel
theorem jF_357_33 : j_F 357 33 = some (.if_icmp .ne 16, 3, 49, 0, .null, .int) := by decide +kernel
theorem jF_357_36 : j_F 357 36 = some (.aload_n 0, 1, 0, 0, .null, .int) := by decide +kernel
theorem jF_357_37 : j_F 357 37 = some (.iconst 0, 1, 0, 0, .null, .int) := by decide +kernel
theorem jF_357_38 : j_F 357 38 = some (.iload_n 1, 1, 0, 0, .null, .int) := by decide +kernel
theorem jF_357_39 : j_F 357 39 = some (.invokevirtual 701, 3, 358, 3, .null, .int) := by decide +kernel
theorem jF_357_42 : j_F 357 42 = some (.ifCond .eq 7, 3, 49, 0, .null, .int) := by decide +kernel
theorem jF_357_45 : j_F 357 45 = some (.iconst 1, 1, 0, 0, .null, .int) := by decide +kernel
theorem jF_357_46 : j_F 357 46 = some (.goto 4, 3, 50, 0, .null, .int) := by decide +kernel
theorem jF_357_49 : j_F 357 49 = some (.iconst 0, 1, 0, 0, .null, .int) := by decide +kernel
theorem jF_357_50 : j_F 357 50 = some (.istore_n 2, 1, 0, 0, .null, .int) := by decide +kernel
theorem jF_357_51 : j_F 357 51 = some (.iload_n 2, 1, 0, 0, .null, .int) := by decide +kernel
theorem jF_357_52 : j_F 357 52 = some (.ifCond .eq 14, 3, 66, 0, .null, .int) := by decide +kernel
theorem jF_357_55 : j_F 357 55 = some (.aload_n 0, 1, 0, 0, .null, .int) := by decide +kernel
theorem jF_357_56 : j_F 357 56 = some (.getfield 7, 3, 12, 0, .null, (.array .int)) := by decide +kernel
theorem jF_357_59 : j_F 357 59 = some (.iconst 0, 1, 0, 0, .null, .int) := by decide +kernel
theorem jF_357_60 : j_F 357 60 = some (.iaload, 1, 0, 0, .null, .int) := by decide +kernel
theorem jF_357_61 : j_F 357 61 = some (.iconst 1, 1, 0, 0, .null, .int) := by decide +kernel
theorem jF_357_62 : j_F 357 62 = some (.iadd, 1, 0, 0, .null, .int) := by decide +kernel
theorem jF_357_63 : j_F 357 63 = some (.goto 4, 3, 67, 0, .null, .int) := by decide +kernel
theorem jF_357_66 : j_F 357 66 = some (.iconst 0, 1, 0, 0, .null, .int) := by decide +kernel
theorem jF_357_67 : j_F 357 67 = some (.istore_n 3, 1, 0, 0, .null, .int) := by decide +kernel
theorem jF_357_68 : j_F 357 68 = some (.iload_n 2, 1, 0, 0, .null, .int) := by decide +kernel
theorem jF_357_69 : j_F 357 69 = some (.ifCond .eq 30, 3, 99, 0, .null, .int) := by decide +kernel
theorem jF_357_72 : j_F 357 72 = some (.aload_n 0, 1, 0, 0, .null, .int) := by decide +kernel
theorem jF_357_73 : j_F 357 73 = some (.iload_n 3, 1, 0, 0, .null, .int) := by decide +kernel
theorem jF_357_74 : j_F 357 74 = some (.iload_n 1, 1, 0, 0, .null, .int) := by decide +kernel
theorem jF_357_75 : j_F 357 75 = some (.invokevirtual 701, 3, 358, 3, .null, .int) := by decide +kernel
theorem jF_357_78 : j_F 357 78 = some (.ifCond .eq 21, 3, 99, 0, .null, .int) := by decide +kernel
theorem jF_357_81 : j_F 357 81 = some (.iload_n 3, 1, 0, 0, .null, .int) := by decide +kernel
theorem jF_357_82 : j_F 357 82 = some (.aload_n 0, 1, 0, 0, .null, .int) := by decide +kernel
theorem jF_357_83 : j_F 357 83 = some (.getfield 7, 3, 12, 0, .null, (.array .int)) := by decide +kernel
theorem jF_357_86 : j_F 357 86 = some (.iload_n 3, 1, 0, 0, .null, .int) := by decide +kernel
theorem jF_357_87 : j_F 357 87 = some (.iaload, 1, 0, 0, .null, .int) := by decide +kernel
theorem jF_357_88 : j_F 357 88 = some (.iadd, 1, 0, 0, .null, .int) := by decide +kernel
theorem jF_357_89 : j_F 357 89 = some (.iconst 2, 1, 0, 0, .null, .int) := by decide +kernel
theorem jF_357_90 : j_F 357 90 = some (.iadd, 1, 0, 0, .null, .int) := by decide +kernel
theorem jF_357_91 : j_F 357 91 = some (.iload_n 1, 1, 0, 0, .null, .int) := by decide +kernel
theorem jF_357_92 : j_F 357 92 = some (.if_icmp .ne 7, 3, 99, 0, .null, .int) := by decide +kernel
theorem jF_357_95 : j_F 357 95 = some (.iconst 1, 1, 0, 0, .null, .int) := by decide +kernel
theorem jF_357_96 : j_F 357 96 = some (.goto 4, 3, 100, 0, .null, .int) := by decide +kernel
theorem jF_357_99 : j_F 357 99 = some (.iconst 0, 1, 0, 0, .null, .int) := by decide +kernel
theorem jF_357_100 : j_F 357 100 = some (.istore_n 2, 1, 0, 0, .null, .int) := by decide +kernel
theorem jF_357_101 : j_F 357 101 = some (.iload_n 2, 1, 0, 0, .null, .int) := by decide +kernel
theorem jF_357_102 : j_F 357 102 = some (.ifCond .ne 15, 3, 117, 0, .null, .int) := by decide +kernel
theorem jF_357_105 : j_F 357 105 = some (.aload_n 0, 1, 0, 0, .null, .int) := by decide +kernel
theorem jF_357_106 : j_F 357 106 = some (.getfield 17, 3, 12, 9, .null, (.array .int)) := by decide +kernel
theorem jF_357_109 : j_F 357 109 = some (.iconst 5, 1, 0, 0, .null, .int) := by decide +kernel
theorem jF_357_110 : j_F 357 110 = some (.dup2, 1, 0, 0, .null, .int) := by decide +kernel
theorem jF_357_111 : j_F 357 111 = some (.iaload, 1, 0, 0, .null, .int) := by decide +kernel
theorem jF_357_112 : j_F 357 112 = some (.iconst 1, 1, 0, 0, .null, .int) := by decide +kernel
theorem jF_357_113 : j_F 357 113 = some (.iadd, 1, 0, 0, .null, .int) := by decide +kernel
theorem jF_357_114 : j_F 357 114 = some (.iastore, 1, 0, 0, .null, .int) := by decide +kernel
theorem jF_357_115 : j_F 357 115 = some (.iconst 0, 1, 0, 0, .null, .int) := by decide +kernel
theorem jF_357_116 : j_F 357 116 = some (.ireturn, 1, 0, 0, .null, .boolean) := by decide +kernel
theorem jF_357_117 : j_F 357 117 = some (.aload_n 0, 1, 0, 0, .null, .int) := by decide +kernel
theorem jF_357_118 : j_F 357 118 = some (.iconst 1, 1, 0, 0, .null, .int) := by decide +kernel
theorem jF_357_119 : j_F 357 119 = some (.invokevirtual 398, 3, 263, 2, .null, .int) := by decide +kernel
theorem jF_357_122 : j_F 357 122 = some (.aload_n 0, 1, 0, 0, .null, .int) := by decide +kernel
theorem jF_357_123 : j_F 357 123 = some (.iconst 0, 1, 0, 0, .null, .int) := by decide +kernel
theorem jF_357_124 : j_F 357 124 = some (.iload_n 1, 1, 0, 0, .null, .int) := by decide +kernel
theorem jF_357_125 : j_F 357 125 = some (.invokevirtual 701, 3, 358, 3, .null, .int) := by decide +kernel
theorem jF_357_128 : j_F 357 128 = some (.istore_n 2, 1, 0, 0, .null, .int) := by decide +kernel
theorem jF_357_129 : j_F 357 129 = some (.aload_n 0, 1, 0, 0, .null, .int) := by decide +kernel
theorem jF_357_130 : j_F 357 130 = some (.iconst 0, 1, 0, 0, .null, .int) := by decide +kernel
theorem jF_357_131 : j_F 357 131 = some (.invokevirtual 398, 3, 263, 2, .null, .int) := by decide +kernel
theorem jF_357_134 : j_F 357 134 = some (.aload_n 0, 1, 0, 0, .null, .int) := by decide +kernel
theorem jF_357_135 : j_F 357 135 = some (.iconst 0, 1, 0, 0, .null, .int) := by decide +kernel
theorem jF_357_136 : j_F 357 136 = some (.putfield 343, 3, 12, 52, .null, .int) := by decide +kernel
theorem jF_357_139 : j_F 357 139 = some (.iconst 1, 1, 0, 0, .null, .int) := by decide +kernel
theorem jF_357_140 : j_F 357 140 = some (.ireturn, 1, 0, 0, .null, .boolean) := by decide +kernel
