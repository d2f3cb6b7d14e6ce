/-! CODE. -/
theorem jF_258_0 : j_F 258 0 = some (.aload_n 0, 1, 0, 0, .null, .int) := by decide +kernel
theorem jF_258_1 : j_F 258 1 = some (.invokevirtual 419, 3, 259, 1, .null, .int) := by decide +kernel
theorem jF_258_4 : j_F 258 4 = some (.lstore_n 1, 1, 0, 0, .null, .int) := by decide +kernel
theorem jF_258_5 : j_F 258 5 = some (.iconst 0, 1, 0, 0, .null, .int) := by decide +kernel
theorem jF_258_6 : j_F 258 6 = some (.istore_n 3, 1, 0, 0, .null, .int) := by decide +kernel
theorem jF_258_7 : j_F 258 7 = some (.iload_n 3, 1, 0, 0, .null, .int) := by decide +kernel
theorem jF_258_8 : j_F 258 8 = some (.aload_n 0, 1, 0, 0, .null, .int) := by decide +kernel
theorem jF_258_9 : j_F 258 9 = some (.getfield 91, 3, 12, 36, .null, (.array .int)) := by decide +kernel
theorem jF_258_12 : j_F 258 12 = some (.iconst 4, 1, 0, 0, .null, .int) := by decide +kernel
theorem jF_258_13 : j_F 258 13 = some (.iaload, 1, 0, 0, .null, .int) := by decide +kernel
theorem jF_258_14 : j_F 258 14 = some (.if_icmp .ge 61, 3, 75, 0, .null, .int) := by decide +kernel
theorem jF_258_17 : j_F 258 17 = some (.aload_n 0, 1, 0, 0, .null, .int) := by decide +kernel
theorem jF_258_18 : j_F 258 18 = some (.getfield 100, 3, 12, 41, .null, (.array .long)) := by decide +kernel
theorem jF_258_21 : j_F 258 21 = some (.bipush 16, 2, 0, 0, .null, .int) := by decide +kernel
theorem jF_258_23 : j_F 258 23 = some (.iload_n 3, 1, 0, 0, .null, .int) := by decide +kernel
theorem jF_258_24 : j_F 258 24 = some (.iadd, 1, 0, 0, .null, .int) := by decide +kernel
theorem jF_258_25 : j_F 258 25 = some (.laload, 1, 0, 0, .null, .int) := by decide +kernel
theorem jF_258_26 : j_F 258 26 = some (.lstore 4, 2, 0, 0, .null, .int) := by decide +kernel
theorem jF_258_28 : j_F 258 28 = some (.aload_n 0, 1, 0, 0, .null, .int) := by decide +kernel
theorem jF_258_29 : j_F 258 29 = some (.getfield 88, 3, 12, 35, .null, (.array .int)) := by decide +kernel
theorem jF_258_32 : j_F 258 32 = some (.sipush 300, 3, 0, 0, .null, .int) := by decide +kernel
theorem jF_258_35 : j_F 258 35 = some (.bipush 6, 2, 0, 0, .null, .int) := by decide +kernel
theorem jF_258_37 : j_F 258 37 = some (.iload_n 3, 1, 0, 0, .null, .int) := by decide +kernel
theorem jF_258_38 : j_F 258 38 = some (.imul, 1, 0, 0, .null, .int) := by decide +kernel
theorem jF_258_39 : j_F 258 39 = some (.iadd, 1, 0, 0, .null, .int) := by decide +kernel
theorem jF_258_40 : j_F 258 40 = some (.iconst 3, 1, 0, 0, .null, .int) := by decide +kernel
theorem jF_258_41 : j_F 258 41 = some (.iadd, 1, 0, 0, .null, .int) := by decide +kernel
theorem jF_258_42 : j_F 258 42 = some (.iaload, 1, 0, 0, .null, .int) := by decide +kernel
theorem jF_258_43 : j_F 258 43 = some (.iconst 1, 1, 0, 0, .null, .int) := by decide +kernel
theorem jF_258_44 : j_F 258 44 = some (.if_icmp .ne 14, 3, 58, 0, .null, .int) := by decide +kernel
theorem jF_258_47 : j_F 258 47 = some (.lload 4, 2, 0, 0, .null, .int) := by decide +kernel
theorem jF_258_49 : j_F 258 49 = some (.lload_n 1, 1, 0, 0, .null, .int) := by decide +kernel
theorem jF_258_50 : j_F 258 50 = some (.ldc2_w 407, 3, 0, 0, (.long (-1)), .int) := by decide +kernel
theorem jF_258_53 : j_F 258 53 = some (.lxor, 1, 0, 0, .null, .int) := by decide +kernel
theorem jF_258_54 : j_F 258 54 = some (.land, 1, 0, 0, .null, .int) := by decide +kernel
theorem jF_258_55 : j_F 258 55 = some (.goto 7, 3, 62, 0, .null, .int) := by decide +kernel
theorem jF_258_58 : j_F 258 58 = some (.lload 4, 2, 0, 0, .null, .int) := by decide +kernel
theorem jF_258_60 : j_F 258 60 = some (.lload_n 1, 1, 0, 0, .null, .int) := by decide +kernel
theorem jF_258_61 : j_F 258 61 = some (.land, 1, 0, 0, .null, .int) := by decide +kernel
theorem jF_258_62 : j_F 258 62 = some (.lconst 0, 1, 0, 0, .null, .int) := by decide +kernel
theorem jF_258_63 : j_F 258 63 = some (.lcmp, 1, 0, 0, .null, .int) := by decide +kernel
theorem jF_258_64 : j_F 258 64 = some (.ifCond .eq 5, 3, 69, 0, .null, .int) := by decide +kernel
theorem jF_258_67 : j_F 258 67 = some (.iconst 0, 1, 0, 0, .null, .int) := by decide +kernel
theorem jF_258_68 : j_F 258 68 = some (.ireturn, 1, 0, 0, .null, .boolean) := by decide +kernel
theorem jF_258_69 : j_F 258 69 = some (.iinc 3 1, 3, 0, 0, .null, .int) := by decide +kernel
theorem jF_258_72 : j_F 258 72 = some (.goto (-65), 3, 7, 0, .null, .int) := by decide +kernel
theorem jF_258_75 : j_F 258 75 = some (.iconst 1, 1, 0, 0, .null, .int) := by decide +kernel
theorem jF_258_76 : j_F 258 76 = some (.ireturn, 1, 0, 0, .null, .boolean) := by decide +kernel
theorem jF_272_0 : j_F 272 0 = some (.iconst 0, 1, 0, 0, .null, .int) := by decide +kernel
theorem jF_272_1 : j_F 272 1 = some (.istore_n 1, 1, 0, 0, .null, .int) := by decide +kernel
theorem jF_272_2 : j_F 272 2 = some (.iconst 0, 1, 0, 0, .null, .int) := by decide +kernel
theorem jF_272_3 : j_F 272 3 = some (.istore_n 2, 1, 0, 0, .null, .int) := by decide +kernel
theorem jF_272_4 : j_F 272 4 = some (.iload_n 2, 1, 0, 0, .null, .int) := by decide +kernel
theorem jF_272_5 : j_F 272 5 = some (.aload_n 0, 1, 0, 0, .null, .int) := by decide +kernel
theorem jF_272_6 : j_F 272 6 = some (.getfield 401, 3, 12, 49, .null, .int) := by decide +kernel
theorem jF_272_9 : j_F 272 9 = some (.if_icmp .ge 23, 3, 32, 0, .null, .int) := by decide +kernel
theorem jF_272_12 : j_F 272 12 = some (.aload_n 0, 1, 0, 0, .null, .int) := by decide +kernel
theorem jF_272_13 : j_F 272 13 = some (.getfield 112, 3, 12, 48, .null, (.array .int)) := by decide +kernel
theorem jF_272_16 : j_F 272 16 = some (.iload_n 2, 1, 0, 0, .null, .int) := by decide +kernel
theorem jF_272_17 : j_F 272 17 = some (.iaload, 1, 0, 0, .null, .int) := by decide +kernel
theorem jF_272_18 : j_F 272 18 = some (.bipush 22, 2, 0, 0, .null, .int) := by decide +kernel
theorem jF_272_20 : j_F 272 20 = some (.if_icmp .eq 6, 3, 26, 0, .null, .int) := by decide +kernel
theorem jF_272_23 : j_F 272 23 = some (.iinc 1 1, 3, 0, 0, .null, .int) := by decide +kernel
theorem jF_272_26 : j_F 272 26 = some (.iinc 2 1, 3, 0, 0, .null, .int) := by decide +kernel
theorem jF_272_29 : j_F 272 29 = some (.goto (-25), 3, 4, 0, .null, .int) := by decide +kernel
theorem jF_272_32 : j_F 272 32 = some (.iload_n 1, 1, 0, 0, .null, .int) := by decide +kernel
theorem jF_272_33 : j_F 272 33 = some (.ireturn, 1, 0, 0, .null, .int) := by decide +kernel
theorem jF_277_0 : j_F 277 0 = some (.aload_n 0, 1, 0, 0, .null, .int) := by decide +kernel
theorem jF_277_1 : j_F 277 1 = some (.iload_n 1, 1, 0, 0, .null, .int) := by decide +kernel
theorem jF_277_2 : j_F 277 2 = some (.invokevirtual 416, 3, 271, 2, .null, .int) := by decide +kernel
theorem jF_277_5 : j_F 277 5 = some (.aload_n 0, 1, 0, 0, .null, .int) := by decide +kernel
theorem jF_277_6 : j_F 277 6 = some (.invokevirtual 419, 3, 259, 1, .null, .int) := by decide +kernel
theorem jF_277_9 : j_F 277 9 = some (.lreturn, 1, 0, 0, .null, .int) := by decide +kernel
theorem jF_281_0 : j_F 281 0 = some (.aload_n 0, 1, 0, 0, .null, .int) := by decide +kernel
theorem jF_281_1 : j_F 281 1 = some (.dup, 1, 0, 0, .null, .int) := by decide +kernel
theorem jF_281_2 : j_F 281 2 = some (.getfield 401, 3, 12, 49, .null, .int) := by decide +kernel
theorem jF_281_5 : j_F 281 5 = some (.iconst 1, 1, 0, 0, .null, .int) := by decide +kernel
theorem jF_281_6 : j_F 281 6 = some (.isub, 1, 0, 0, .null, .int) := by decide +kernel
theorem jF_281_7 : j_F 281 7 = some (.putfield 401, 3, 12, 49, .null, .int) := by decide +kernel
theorem jF_281_10 : j_F 281 10 = some (.iload_n 1, 1, 0, 0, .null, .int) := by decide +kernel
theorem jF_281_11 : j_F 281 11 = some (.istore_n 2, 1, 0, 0, .null, .int) := by decide +kernel
theorem jF_281_12 : j_F 281 12 = some (.iload_n 2, 1, 0, 0, .null, .int) := by decide +kernel
theorem jF_281_13 : j_F 281 13 = some (.aload_n 0, 1, 0, 0, .null, .int) := by decide +kernel
theorem jF_281_14 : j_F 281 14 = some (.getfield 401, 3, 12, 49, .null, .int) := by decide +kernel
theorem jF_281_17 : j_F 281 17 = some (.if_icmp .ge 23, 3, 40, 0, .null, .int) := by decide +kernel
theorem jF_281_20 : j_F 281 20 = some (.aload_n 0, 1, 0, 0, .null, .int) := by decide +kernel
theorem jF_281_21 : j_F 281 21 = some (.getfield 112, 3, 12, 48, .null, (.array .int)) := by decide +kernel
theorem jF_281_24 : j_F 281 24 = some (.iload_n 2, 1, 0, 0, .null, .int) := by decide +kernel
theorem jF_281_25 : j_F 281 25 = some (.aload_n 0, 1, 0, 0, .null, .int) := by decide +kernel
theorem jF_281_26 : j_F 281 26 = some (.getfield 112, 3, 12, 48, .null, (.array .int)) := by decide +kernel
theorem jF_281_29 : j_F 281 29 = some (.iload_n 2, 1, 0, 0, .null, .int) := by decide +kernel
theorem jF_281_30 : j_F 281 30 = some (.iconst 1, 1, 0, 0, .null, .int) := by decide +kernel
theorem jF_281_31 : j_F 281 31 = some (.iadd, 1, 0, 0, .null, .int) := by decide +kernel
theorem jF_281_32 : j_F 281 32 = some (.iaload, 1, 0, 0, .null, .int) := by decide +kernel
theorem jF_281_33 : j_F 281 33 = some (.iastore, 1, 0, 0, .null, .int) := by decide +kernel
theorem jF_281_34 : j_F 281 34 = some (.iinc 2 1, 3, 0, 0, .null, .int) := by decide +kernel
theorem jF_281_37 : j_F 281 37 = some (.goto (-25), 3, 12, 0, .null, .int) := by decide +kernel
theorem jF_281_40 : j_F 281 40 = some (.return_, 1, 0, 0, .null, .int) := by decide +kernel
theorem jF_282_0 : j_F 282 0 = some (.iconst 0, 1, 0, 0, .null, .int) := by decide +kernel
theorem jF_282_1 : j_F 282 1 = some (.istore_n 1, 1, 0, 0, .null, .int) := by decide +kernel
theorem jF_282_2 : j_F 282 2 = some (.iconst 1, 1, 0, 0, .null, .int) := by decide +kernel
theorem jF_282_3 : j_F 282 3 = some (.istore_n 2, 1, 0, 0, .null, .int) := by decide +kernel
theorem jF_282_4 : j_F 282 4 = some (.iconst 0, 1, 0, 0, .null, .int) := by decide +kernel
theorem jF_282_5 : j_F 282 5 = some (.istore_n 3, 1, 0, 0, .null, .int) := by decide +kernel
theorem jF_282_6 : j_F 282 6 = some (.iconst 0, 1, 0, 0, .null, .int) := by decide +kernel
theorem jF_282_7 : j_F 282 7 = some (.istore 4, 2, 0, 0, .null, .int) := by decide +kernel
theorem jF_282_9 : j_F 282 9 = some (.iconst 0, 1, 0, 0, .null, .int) := by decide +kernel
theorem jF_282_10 : j_F 282 10 = some (.istore 5, 2, 0, 0, .null, .int) := by decide +kernel
theorem jF_282_12 : j_F 282 12 = some (.iload 5, 2, 0, 0, .null, .int) := by decide +kernel
theorem jF_282_14 : j_F 282 14 = some (.aload_n 0, 1, 0, 0, .null, .int) := by decide +kernel
theorem jF_282_15 : j_F 282 15 = some (.getfield 401, 3, 12, 49, .null, .int) := by decide +kernel
theorem jF_282_18 : j_F 282 18 = some (.if_icmp .ge 135, 3, 153, 0, .null, .int) := by decide +kernel
theorem jF_282_21 : j_F 282 21 = some (.aload_n 0, 1, 0, 0, .null, .int) := by decide +kernel
theorem jF_282_22 : j_F 282 22 = some (.getfield 112, 3, 12, 48, .null, (.array .int)) := by decide +kernel
theorem jF_282_25 : j_F 282 25 = some (.iload 5, 2, 0, 0, .null, .int) := by decide +kernel
theorem jF_282_27 : j_F 282 27 = some (.iaload, 1, 0, 0, .null, .int) := by decide +kernel
theorem jF_282_28 : j_F 282 28 = some (.istore 6, 2, 0, 0, .null, .int) := by decide +kernel
theorem jF_282_30 : j_F 282 30 = some (.iload 6, 2, 0, 0, .null, .int) := by decide +kernel
theorem jF_282_32 : j_F 282 32 = some (.bipush 22, 2, 0, 0, .null, .int) := by decide +kernel
theorem jF_282_34 : j_F 282 34 = some (.if_icmp .eq 6, 3, 40, 0, .null, .int) := by decide +kernel
theorem jF_282_37 : j_F 282 37 = some (.iinc 1 1, 3, 0, 0, .null, .int) := by decide +kernel
theorem jF_282_40 : j_F 282 40 = some (.iload_n 2, 1, 0, 0, .null, .int) := by decide +kernel
theorem jF_282_41 : j_F 282 41 = some (.ifCond .eq 40, 3, 81, 0, .null, .int) := by decide +kernel
theorem jF_282_44 : j_F 282 44 = some (.iload 6, 2, 0, 0, .null, .int) := by decide +kernel
theorem jF_282_46 : j_F 282 46 = some (.bipush 20, 2, 0, 0, .null, .int) := by decide +kernel
theorem jF_282_48 : j_F 282 48 = some (.if_icmp .eq 14, 3, 62, 0, .null, .int) := by decide +kernel
theorem jF_282_51 : j_F 282 51 = some (.aload_n 0, 1, 0, 0, .null, .int) := by decide +kernel
theorem jF_282_52 : j_F 282 52 = some (.iload 6, 2, 0, 0, .null, .int) := by decide +kernel
theorem jF_282_54 : j_F 282 54 = some (.invokevirtual 404, 3, 283, 2, .null, .int) := by decide +kernel
theorem jF_282_57 : j_F 282 57 = some (.ifCond .ne 5, 3, 62, 0, .null, .int) := by decide +kernel
theorem jF_282_60 : j_F 282 60 = some (.iconst 0, 1, 0, 0, .null, .int) := by decide +kernel
theorem jF_282_61 : j_F 282 61 = some (.ireturn, 1, 0, 0, .null, .boolean) := by decide +kernel
theorem jF_282_62 : j_F 282 62 = some (.iload 6, 2, 0, 0, .null, .int) := by decide +kernel
theorem jF_282_64 : j_F 282 64 = some (.bipush 20, 2, 0, 0, .null, .int) := by decide +kernel
theorem jF_282_66 : j_F 282 66 = some (.if_icmp .ne 7, 3, 73, 0, .null, .int) := by decide +kernel
theorem jF_282_69 : j_F 282 69 = some (.iconst 1, 1, 0, 0, .null, .int) := by decide +kernel
theorem jF_282_70 : j_F 282 70 = some (.goto 4, 3, 74, 0, .null, .int) := by decide +kernel
theorem jF_282_73 : j_F 282 73 = some (.iconst 0, 1, 0, 0, .null, .int) := by decide +kernel
theorem jF_282_74 : j_F 282 74 = some (.istore_n 2, 1, 0, 0, .null, .int) := by decide +kernel
theorem jF_282_75 : j_F 282 75 = some (.iconst 1, 1, 0, 0, .null, .int) := by decide +kernel
theorem jF_282_76 : j_F 282 76 = some (.istore 4, 2, 0, 0, .null, .int) := by decide +kernel
theorem jF_282_78 : j_F 282 78 = some (.goto 69, 3, 147, 0, .null, .int) := by decide +kernel
theorem jF_282_81 : j_F 282 81 = some (.iload 6, 2, 0, 0, .null, .int) := by decide +kernel
theorem jF_282_83 : j_F 282 83 = some (.bipush 18, 2, 0, 0, .null, .int) := by decide +kernel
theorem jF_282_85 : j_F 282 85 = some (.if_icmp .eq 21, 3, 106, 0, .null, .int) := by decide +kernel
theorem jF_282_88 : j_F 282 88 = some (.iload 6, 2, 0, 0, .null, .int) := by decide +kernel
theorem jF_282_90 : j_F 282 90 = some (.bipush 19, 2, 0, 0, .null, .int) := by decide +kernel
theorem jF_282_92 : j_F 282 92 = some (.if_icmp .eq 14, 3, 106, 0, .null, .int) := by decide +kernel
theorem jF_282_95 : j_F 282 95 = some (.iload 6, 2, 0, 0, .null, .int) := by decide +kernel
theorem jF_282_97 : j_F 282 97 = some (.bipush 21, 2, 0, 0, .null, .int) := by decide +kernel
theorem jF_282_99 : j_F 282 99 = some (.if_icmp .ne 29, 3, 128, 0, .null, .int) := by decide +kernel
theorem jF_282_102 : j_F 282 102 = some (.iload_n 3, 1, 0, 0, .null, .int) := by decide +kernel
theorem jF_282_103 : j_F 282 103 = some (.ifCond .ne 25, 3, 128, 0, .null, .int) := by decide +kernel
theorem jF_282_106 : j_F 282 106 = some (.iload_n 3, 1, 0, 0, .null, .int) := by decide +kernel
theorem jF_282_107 : j_F 282 107 = some (.ifCond .ne 10, 3, 117, 0, .null, .int) := by decide +kernel
theorem jF_282_110 : j_F 282 110 = some (.iload 6, 2, 0, 0, .null, .int) := by decide +kernel
theorem jF_282_112 : j_F 282 112 = some (.bipush 21, 2, 0, 0, .null, .int) := by decide +kernel
theorem jF_282_114 : j_F 282 114 = some (.if_icmp .ne 7, 3, 121, 0, .null, .int) := by decide +kernel
theorem jF_282_117 : j_F 282 117 = some (.iconst 1, 1, 0, 0, .null, .int) := by decide +kernel
theorem jF_282_118 : j_F 282 118 = some (.goto 4, 3, 122, 0, .null, .int) := by decide +kernel
theorem jF_282_121 : j_F 282 121 = some (.iconst 0, 1, 0, 0, .null, .int) := by decide +kernel
theorem jF_282_122 : j_F 282 122 = some (.istore_n 3, 1, 0, 0, .null, .int) := by decide +kernel
theorem jF_282_123 : j_F 282 123 = some (.iconst 1, 1, 0, 0, .null, .int) := by decide +kernel
theorem jF_282_124 : j_F 282 124 = some (.istore_n 2, 1, 0, 0, .null, .int) := by decide +kernel
theorem jF_282_125 : j_F 282 125 = some (.goto 22, 3, 147, 0, .null, .int) := by decide +kernel
theorem jF_282_128 : j_F 282 128 = some (.iload 6, 2, 0, 0, .null, .int) := by decide +kernel
theorem jF_282_130 : j_F 282 130 = some (.bipush 22, 2, 0, 0, .null, .int) := by decide +kernel
theorem jF_282_132 : j_F 282 132 = some (.if_icmp .ne 13, 3, 145, 0, .null, .int) := by decide +kernel
theorem jF_282_135 : j_F 282 135 = some (.iconst 0, 1, 0, 0, .null, .int) := by decide +kernel
theorem jF_282_136 : j_F 282 136 = some (.istore_n 3, 1, 0, 0, .null, .int) := by decide +kernel
theorem jF_282_137 : j_F 282 137 = some (.iconst 0, 1, 0, 0, .null, .int) := by decide +kernel
theorem jF_282_138 : j_F 282 138 = some (.istore 4, 2, 0, 0, .null, .int) := by decide +kernel
theorem jF_282_140 : j_F 282 140 = some (.iconst 1, 1, 0, 0, .null, .int) := by decide +kernel
theorem jF_282_141 : j_F 282 141 = some (.istore_n 2, 1, 0, 0, .null, .int) := by decide +kernel
theorem jF_282_142 : j_F 282 142 = some (.goto 5, 3, 147, 0, .null, .int) := by decide +kernel
theorem jF_282_145 : j_F 282 145 = some (.iconst 0, 1, 0, 0, .null, .int) := by decide +kernel
theorem jF_282_146 : j_F 282 146 = some (.ireturn, 1, 0, 0, .null, .boolean) := by decide +kernel
theorem jF_282_147 : j_F 282 147 = some (.iinc 5 1, 3, 0, 0, .null, .int) := by decide +kernel
theorem jF_282_150 : j_F 282 150 = some (.goto (-138), 3, 12, 0, .null, .int) := by decide +kernel
theorem jF_282_153 : j_F 282 153 = some (.iload 4, 2, 0, 0, .null, .int) := by decide +kernel
theorem jF_282_155 : j_F 282 155 = some (.ifCond .ne 24, 3, 179, 0, .null, .int) := by decide +kernel
theorem jF_282_158 : j_F 282 158 = some (.iload_n 1, 1, 0, 0, .null, .int) := by decide +kernel
theorem jF_282_159 : j_F 282 159 = some (.aload_n 0, 1, 0, 0, .null, .int) := by decide +kernel
theorem jF_282_160 : j_F 282 160 = some (.getfield 94, 3, 12, 38, .null, .int) := by decide +kernel
theorem jF_282_163 : j_F 282 163 = some (.if_icmp .gt 16, 3, 179, 0, .null, .int) := by decide +kernel
theorem jF_282_166 : j_F 282 166 = some (.aload_n 0, 1, 0, 0, .null, .int) := by decide +kernel
theorem jF_282_167 : j_F 282 167 = some (.getfield 401, 3, 12, 49, .null, .int) := by decide +kernel
theorem jF_282_170 : j_F 282 170 = some (.bipush 60, 2, 0, 0, .null, .int) := by decide +kernel
theorem jF_282_172 : j_F 282 172 = some (.if_icmp .gt 7, 3, 179, 0, .null, .int) := by decide +kernel
theorem jF_282_175 : j_F 282 175 = some (.iconst 1, 1, 0, 0, .null, .int) := by decide +kernel
theorem jF_282_176 : j_F 282 176 = some (.goto 4, 3, 180, 0, .null, .int) := by decide +kernel
theorem jF_282_179 : j_F 282 179 = some (.iconst 0, 1, 0, 0, .null, .int) := by decide +kernel
theorem jF_282_180 : j_F 282 180 = some (.ireturn, 1, 0, 0, .null, .boolean) := by decide +kernel
theorem jF_283_0 : j_F 283 0 = some (.iload_n 1, 1, 0, 0, .null, .int) := by decide +kernel
theorem jF_283_1 : j_F 283 1 = some (.bipush 18, 2, 0, 0, .null, .int) := by decide +kernel
theorem jF_283_3 : j_F 283 3 = some (.if_icmp .ge 21, 3, 24, 0, .null, .int) := by decide +kernel
theorem jF_283_6 : j_F 283 6 = some (.aload_n 0, 1, 0, 0, .null, .int) := by decide +kernel
theorem jF_283_7 : j_F 283 7 = some (.getfield 75, 3, 12, 29, .null, (.array .long)) := by decide +kernel
theorem jF_283_10 : j_F 283 10 = some (.bipush 18, 2, 0, 0, .null, .int) := by decide +kernel
theorem jF_283_12 : j_F 283 12 = some (.iload_n 1, 1, 0, 0, .null, .int) := by decide +kernel
theorem jF_283_13 : j_F 283 13 = some (.iadd, 1, 0, 0, .null, .int) := by decide +kernel
theorem jF_283_14 : j_F 283 14 = some (.laload, 1, 0, 0, .null, .int) := by decide +kernel
theorem jF_283_15 : j_F 283 15 = some (.lconst 0, 1, 0, 0, .null, .int) := by decide +kernel
theorem jF_283_16 : j_F 283 16 = some (.lcmp, 1, 0, 0, .null, .int) := by decide +kernel
theorem jF_283_17 : j_F 283 17 = some (.ifCond .eq 7, 3, 24, 0, .null, .int) := by decide +kernel
theorem jF_283_20 : j_F 283 20 = some (.iconst 1, 1, 0, 0, .null, .int) := by decide +kernel
theorem jF_283_21 : j_F 283 21 = some (.goto 4, 3, 25, 0, .null, .int) := by decide +kernel
theorem jF_283_24 : j_F 283 24 = some (.iconst 0, 1, 0, 0, .null, .int) := by decide +kernel
theorem jF_283_25 : j_F 283 25 = some (.ireturn, 1, 0, 0, .null, .boolean) := by decide +kernel
theorem jF_288_0 : j_F 288 0 = some (.aload_n 0, 1, 0, 0, .null, .int) := by decide +kernel
theorem jF_288_1 : j_F 288 1 = some (.iload_n 1, 1, 0, 0, .null, .int) := by decide +kernel
theorem jF_288_2 : j_F 288 2 = some (.invokevirtual 416, 3, 271, 2, .null, .int) := by decide +kernel
theorem jF_288_5 : j_F 288 5 = some (.iload_n 3, 1, 0, 0, .null, .int) := by decide +kernel
theorem jF_288_6 : j_F 288 6 = some (.i2l, 1, 0, 0, .null, .int) := by decide +kernel
theorem jF_288_7 : j_F 288 7 = some (.lconst 0, 1, 0, 0, .null, .int) := by decide +kernel
theorem jF_288_8 : j_F 288 8 = some (.iload_n 2, 1, 0, 0, .null, .int) := by decide +kernel
theorem jF_288_9 : j_F 288 9 = some (.ifCond .ne 11, 3, 20, 0, .null, .int) := by decide +kernel
theorem jF_288_12 : j_F 288 12 = some (.aload_n 0, 1, 0, 0, .null, .int) := by decide +kernel
theorem jF_288_13 : j_F 288 13 = some (.getfield 401, 3, 12, 49, .null, .int) := by decide +kernel
theorem jF_288_16 : j_F 288 16 = some (.i2l, 1, 0, 0, .null, .int) := by decide +kernel
theorem jF_288_17 : j_F 288 17 = some (.goto 10, 3, 27, 0, .null, .int) := by decide +kernel
theorem jF_288_20 : j_F 288 20 = some (.aload_n 0, 1, 0, 0, .null, .int) := by decide +kernel
theorem jF_288_21 : j_F 288 21 = some (.getfield 401, 3, 12, 49, .null, .int) := by decide +kernel
theorem jF_288_24 : j_F 288 24 = some (.iconst 1, 1, 0, 0, .null, .int) := by decide +kernel
theorem jF_288_25 : j_F 288 25 = some (.isub, 1, 0, 0, .null, .int) := by decide +kernel
theorem jF_288_26 : j_F 288 26 = some (.i2l, 1, 0, 0, .null, .int) := by decide +kernel
theorem jF_288_27 : j_F 288 27 = some (.invokestatic 252, 3, 232, 3, .null, .int) := by decide +kernel
theorem jF_288_30 : j_F 288 30 = some (.ifCond .eq 21, 3, 51, 0, .null, .int) := by decide +kernel
theorem jF_288_33 : j_F 288 33 = some (.iload_n 2, 1, 0, 0, .null, .int) := by decide +kernel
theorem jF_288_34 : j_F 288 34 = some (.iconst 1, 1, 0, 0, .null, .int) := by decide +kernel
theorem jF_288_35 : j_F 288 35 = some (.if_icmp .eq 18, 3, 53, 0, .null, .int) := by decide +kernel
theorem jF_288_38 : j_F 288 38 = some (.iload 4, 2, 0, 0, .null, .int) := by decide +kernel
theorem jF_288_40 : j_F 288 40 = some (.i2l, 1, 0, 0, .null, .int) := by decide +kernel
theorem jF_288_41 : j_F 288 41 = some (.lconst 0, 1, 0, 0, .null, .int) := by decide +kernel
theorem jF_288_42 : j_F 288 42 = some (.ldc2_w 460, 3, 0, 0, (.long (22)), .int) := by decide +kernel
theorem jF_288_45 : j_F 288 45 = some (.invokestatic 252, 3, 232, 3, .null, .int) := by decide +kernel
theorem jF_288_48 : j_F 288 48 = some (.ifCond .ne 5, 3, 53, 0, .null, .int) := by decide +kernel
theorem jF_288_51 : j_F 288 51 = some (.iconst 0, 1, 0, 0, .null, .int) := by decide +kernel
theorem jF_288_52 : j_F 288 52 = some (.ireturn, 1, 0, 0, .null, .boolean) := by decide +kernel
theorem jF_288_53 : j_F 288 53 = some (.iload_n 2, 1, 0, 0, .null, .int) := by decide +kernel
theorem jF_288_54 : j_F 288 54 = some (.iconst 2, 1, 0, 0, .null, .int) := by decide +kernel
theorem jF_288_55 : j_F 288 55 = some (.if_icmp .ne 16, 3, 71, 0, .null, .int) := by decide +kernel
theorem jF_288_58 : j_F 288 58 = some (.aload_n 0, 1, 0, 0, .null, .int) := by decide +kernel
theorem jF_288_59 : j_F 288 59 = some (.getfield 112, 3, 12, 48, .null, (.array .int)) := by decide +kernel
theorem jF_288_62 : j_F 288 62 = some (.iload_n 3, 1, 0, 0, .null, .int) := by decide +kernel
theorem jF_288_63 : j_F 288 63 = some (.iaload, 1, 0, 0, .null, .int) := by decide +kernel
theorem jF_288_64 : j_F 288 64 = some (.iload 4, 2, 0, 0, .null, .int) := by decide +kernel
theorem jF_288_66 : j_F 288 66 = some (.if_icmp .ne 5, 3, 71, 0, .null, .int) := by decide +kernel
theorem jF_288_69 : j_F 288 69 = some (.iconst 0, 1, 0, 0, .null, .int) := by decide +kernel
theorem jF_288_70 : j_F 288 70 = some (.ireturn, 1, 0, 0, .null, .boolean) := by decide +kernel
theorem jF_288_71 : j_F 288 71 = some (.iload_n 2, 1, 0, 0, .null, .int) := by decide +kernel
theorem jF_288_72 : j_F 288 72 = some (.ifCond .ne 24, 3, 96, 0, .null, .int) := by decide +kernel
theorem jF_288_75 : j_F 288 75 = some (.aload_n 0, 1, 0, 0, .null, .int) := by decide +kernel
theorem jF_288_76 : j_F 288 76 = some (.getfield 401, 3, 12, 49, .null, .int) := by decide +kernel
theorem jF_288_79 : j_F 288 79 = some (.bipush 60, 2, 0, 0, .null, .int) := by decide +kernel
theorem jF_288_81 : j_F 288 81 = some (.if_icmp .ne 5, 3, 86, 0, .null, .int) := by decide +kernel
theorem jF_288_84 : j_F 288 84 = some (.iconst 0, 1, 0, 0, .null, .int) := by decide +kernel
theorem jF_288_85 : j_F 288 85 = some (.ireturn, 1, 0, 0, .null, .boolean) := by decide +kernel
theorem jF_288_86 : j_F 288 86 = some (.aload_n 0, 1, 0, 0, .null, .int) := by decide +kernel
theorem jF_288_87 : j_F 288 87 = some (.iload_n 3, 1, 0, 0, .null, .int) := by decide +kernel
theorem jF_288_88 : j_F 288 88 = some (.iload 4, 2, 0, 0, .null, .int) := by decide +kernel
theorem jF_288_90 : j_F 288 90 = some (.invokevirtual 462, 3, 289, 3, .null, .int) := by decide +kernel
theorem jF_288_93 : j_F 288 93 = some (.goto 24, 3, 117, 0, .null, .int) := by decide +kernel
theorem jF_288_96 : j_F 288 96 = some (.iload_n 2, 1, 0, 0, .null, .int) := by decide +kernel
theorem jF_288_97 : j_F 288 97 = some (.iconst 1, 1, 0, 0, .null, .int) := by decide +kernel
theorem jF_288_98 : j_F 288 98 = some (.if_icmp .ne 11, 3, 109, 0, .null, .int) := by decide +kernel
theorem jF_288_101 : j_F 288 101 = some (.aload_n 0, 1, 0, 0, .null, .int) := by decide +kernel
theorem jF_288_102 : j_F 288 102 = some (.iload_n 3, 1, 0, 0, .null, .int) := by decide +kernel
theorem jF_288_103 : j_F 288 103 = some (.invokevirtual 451, 3, 281, 2, .null, .int) := by decide +kernel
theorem jF_288_106 : j_F 288 106 = some (.goto 11, 3, 117, 0, .null, .int) := by decide +kernel
theorem jF_288_109 : j_F 288 109 = some (.aload_n 0, 1, 0, 0, .null, .int) := by decide +kernel
theorem jF_288_110 : j_F 288 110 = some (.getfield 112, 3, 12, 48, .null, (.array .int)) := by decide +kernel
theorem jF_288_113 : j_F 288 113 = some (.iload_n 3, 1, 0, 0, .null, .int) := by decide +kernel
theorem jF_288_114 : j_F 288 114 = some (.iload 4, 2, 0, 0, .null, .int) := by decide +kernel
theorem jF_288_116 : j_F 288 116 = some (.iastore, 1, 0, 0, .null, .int) := by decide +kernel
theorem jF_288_117 : j_F 288 117 = some (.iconst 1, 1, 0, 0, .null, .int) := by decide +kernel
theorem jF_288_118 : j_F 288 118 = some (.ireturn, 1, 0, 0, .null, .boolean) := by decide +kernel
theorem jF_289_0 : j_F 289 0 = some (.aload_n 0, 1, 0, 0, .null, .int) := by decide +kernel
theorem jF_289_1 : j_F 289 1 = some (.getfield 401, 3, 12, 49, .null, .int) := by decide +kernel
theorem jF_289_4 : j_F 289 4 = some (.istore_n 3, 1, 0, 0, .null, .int) := by decide +kernel
theorem jF_289_5 : j_F 289 5 = some (.iload_n 3, 1, 0, 0, .null, .int) := by decide +kernel
theorem jF_289_6 : j_F 289 6 = some (.iload_n 1, 1, 0, 0, .null, .int) := by decide +kernel
theorem jF_289_7 : j_F 289 7 = some (.if_icmp .le 23, 3, 30, 0, .null, .int) := by decide +kernel
theorem jF_289_10 : j_F 289 10 = some (.aload_n 0, 1, 0, 0, .null, .int) := by decide +kernel
theorem jF_289_11 : j_F 289 11 = some (.getfield 112, 3, 12, 48, .null, (.array .int)) := by decide +kernel
theorem jF_289_14 : j_F 289 14 = some (.iload_n 3, 1, 0, 0, .null, .int) := by decide +kernel
theorem jF_289_15 : j_F 289 15 = some (.aload_n 0, 1, 0, 0, .null, .int) := by decide +kernel
theorem jF_289_16 : j_F 289 16 = some (.getfield 112, 3, 12, 48, .null, (.array .int)) := by decide +kernel
theorem jF_289_19 : j_F 289 19 = some (.iload_n 3, 1, 0, 0, .null, .int) := by decide +kernel
theorem jF_289_20 : j_F 289 20 = some (.iconst 1, 1, 0, 0, .null, .int) := by decide +kernel
theorem jF_289_21 : j_F 289 21 = some (.isub, 1, 0, 0, .null, .int) := by decide +kernel
theorem jF_289_22 : j_F 289 22 = some (.iaload, 1, 0, 0, .null, .int) := by decide +kernel
theorem jF_289_23 : j_F 289 23 = some (.iastore, 1, 0, 0, .null, .int) := by decide +kernel
theorem jF_289_24 : j_F 289 24 = some (.iinc 3 (-1), 3, 0, 0, .null, .int) := by decide +kernel
theorem jF_289_27 : j_F 289 27 = some (.goto (-22), 3, 5, 0, .null, .int) := by decide +kernel
theorem jF_289_30 : j_F 289 30 = some (.aload_n 0, 1, 0, 0, .null, .int) := by decide +kernel
theorem jF_289_31 : j_F 289 31 = some (.getfield 112, 3, 12, 48, .null, (.array .int)) := by decide +kernel
theorem jF_289_34 : j_F 289 34 = some (.iload_n 1, 1, 0, 0, .null, .int) := by decide +kernel
theorem jF_289_35 : j_F 289 35 = some (.iload_n 2, 1, 0, 0, .null, .int) := by decide +kernel
theorem jF_289_36 : j_F 289 36 = some (.iastore, 1, 0, 0, .null, .int) := by decide +kernel
theorem jF_289_37 : j_F 289 37 = some (.aload_n 0, 1, 0, 0, .null, .int) := by decide +kernel
theorem jF_289_38 : j_F 289 38 = some (.dup, 1, 0, 0, .null, .int) := by decide +kernel
theorem jF_289_39 : j_F 289 39 = some (.getfield 401, 3, 12, 49, .null, .int) := by decide +kernel
theorem jF_289_42 : j_F 289 42 = some (.iconst 1, 1, 0, 0, .null, .int) := by decide +kernel
theorem jF_289_43 : j_F 289 43 = some (.iadd, 1, 0, 0, .null, .int) := by decide +kernel
theorem jF_289_44 : j_F 289 44 = some (.putfield 401, 3, 12, 49, .null, .int) := by decide +kernel
theorem jF_289_47 : j_F 289 47 = some (.return_, 1, 0, 0, .null, .int) := by decide +kernel
theorem jF_290_0 : j_F 290 0 = some (.aload_n 0, 1, 0, 0, .null, .int) := by decide +kernel
theorem jF_290_1 : j_F 290 1 = some (.invokevirtual 422, 3, 282, 1, .null, .int) := by decide +kernel
theorem jF_290_4 : j_F 290 4 = some (.ifCond .eq 14, 3, 18, 0, .null, .int) := by decide +kernel
theorem jF_290_7 : j_F 290 7 = some (.aload_n 0, 1, 0, 0, .null, .int) := by decide +kernel
theorem jF_290_8 : j_F 290 8 = some (.invokevirtual 392, 3, 258, 1, .null, .int) := by decide +kernel
theorem jF_290_11 : j_F 290 11 = some (.ifCond .eq 7, 3, 18, 0, .null, .int) := by decide +kernel
theorem jF_290_14 : j_F 290 14 = some (.iconst 1, 1, 0, 0, .null, .int) := by decide +kernel
theorem jF_290_15 : j_F 290 15 = some (.goto 4, 3, 19, 0, .null, .int) := by decide +kernel
theorem jF_290_18 : j_F 290 18 = some (.iconst 0, 1, 0, 0, .null, .int) := by decide +kernel
theorem jF_290_19 : j_F 290 19 = some (.ireturn, 1, 0, 0, .null, .boolean) := by decide +kernel
