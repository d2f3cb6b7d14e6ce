/-! CODE. -/
theorem jF_270_0 : j_F 270 0 = some (.aload_n 0, 1, 0, 0, .null, .int) := by decide +kernel
theorem jF_270_1 : j_F 270 1 = some (.iload_n 1, 1, 0, 0, .null, .int) := by decide +kernel
theorem jF_270_2 : j_F 270 2 = some (.invokestatic 432, 3, 269, 1, .null, .int) := by decide +kernel
theorem jF_270_5 : j_F 270 5 = some (.invokevirtual 416, 3, 271, 2, .null, .int) := by decide +kernel
theorem jF_270_8 : j_F 270 8 = some (.iload_n 2, 1, 0, 0, .null, .int) := by decide +kernel
theorem jF_270_9 : j_F 270 9 = some (.tableswitch 84 0 4 #[35, 40, 50, 58, 63], 35, 0, 0, .null, .int) := by decide +kernel
theorem jF_270_44 : j_F 270 44 = some (.aload_n 0, 1, 0, 0, .null, .int) := by decide +kernel
theorem jF_270_45 : j_F 270 45 = some (.invokevirtual 436, 3, 272, 1, .null, .int) := by decide +kernel
theorem jF_270_48 : j_F 270 48 = some (.ireturn, 1, 0, 0, .null, .int) := by decide +kernel
theorem jF_270_49 : j_F 270 49 = some (.aload_n 0, 1, 0, 0, .null, .int) := by decide +kernel
theorem jF_270_50 : j_F 270 50 = some (.getfield 401, 3, 12, 49, .null, .int) := by decide +kernel
theorem jF_270_53 : j_F 270 53 = some (.aload_n 0, 1, 0, 0, .null, .int) := by decide +kernel
theorem jF_270_54 : j_F 270 54 = some (.invokevirtual 436, 3, 272, 1, .null, .int) := by decide +kernel
theorem jF_270_57 : j_F 270 57 = some (.isub, 1, 0, 0, .null, .int) := by decide +kernel
theorem jF_270_58 : j_F 270 58 = some (.ireturn, 1, 0, 0, .null, .int) := by decide +kernel
theorem jF_270_59 : j_F 270 59 = some (.aload_n 0, 1, 0, 0, .null, .int) := by decide +kernel
theorem jF_270_60 : j_F 270 60 = some (.invokevirtual 419, 3, 259, 1, .null, .int) := by decide +kernel
theorem jF_270_63 : j_F 270 63 = some (.invokestatic 439, 3, 273, 1, .null, .int) := by decide +kernel
theorem jF_270_66 : j_F 270 66 = some (.ireturn, 1, 0, 0, .null, .int) := by decide +kernel
theorem jF_270_67 : j_F 270 67 = some (.aload_n 0, 1, 0, 0, .null, .int) := by decide +kernel
theorem jF_270_68 : j_F 270 68 = some (.invokevirtual 442, 3, 274, 1, .null, .int) := by decide +kernel
theorem jF_270_71 : j_F 270 71 = some (.ireturn, 1, 0, 0, .null, .int) := by decide +kernel
theorem jF_270_72 : j_F 270 72 = some (.iload_n 1, 1, 0, 0, .null, .int) := by decide +kernel
theorem jF_270_73 : j_F 270 73 = some (.ifCond .eq 7, 3, 80, 0, .null, .int) := by decide +kernel
theorem jF_270_76 : j_F 270 76 = some (.iconst (-1), 1, 0, 0, .null, .int) := by decide +kernel
theorem jF_270_77 : j_F 270 77 = some (.goto 15, 3, 92, 0, .null, .int) := by decide +kernel
theorem jF_270_80 : j_F 270 80 = some (.aload_n 0, 1, 0, 0, .null, .int) := by decide +kernel
theorem jF_270_81 : j_F 270 81 = some (.invokevirtual 392, 3, 258, 1, .null, .int) := by decide +kernel
theorem jF_270_84 : j_F 270 84 = some (.ifCond .eq 7, 3, 91, 0, .null, .int) := by decide +kernel
theorem jF_270_87 : j_F 270 87 = some (.iconst 1, 1, 0, 0, .null, .int) := by decide +kernel
theorem jF_270_88 : j_F 270 88 = some (.goto 4, 3, 92, 0, .null, .int) := by decide +kernel
theorem jF_270_91 : j_F 270 91 = some (.iconst 0, 1, 0, 0, .null, .int) := by decide +kernel
theorem jF_270_92 : j_F 270 92 = some (.ireturn, 1, 0, 0, .null, .int) := by decide +kernel
theorem jF_270_93 : j_F 270 93 = some (.iconst (-1), 1, 0, 0, .null, .int) := by decide +kernel
theorem jF_270_94 : j_F 270 94 = some (.ireturn, 1, 0, 0, .null, .int) := by decide +kernel
theorem jF_273_0 : j_F 273 0 = some (.iconst 0, 1, 0, 0, .null, .int) := by decide +kernel
theorem jF_273_1 : j_F 273 1 = some (.istore_n 2, 1, 0, 0, .null, .int) := by decide +kernel
theorem jF_273_2 : j_F 273 2 = some (.lload_n 0, 1, 0, 0, .null, .int) := by decide +kernel
theorem jF_273_3 : j_F 273 3 = some (.lstore_n 3, 1, 0, 0, .null, .int) := by decide +kernel
theorem jF_273_4 : j_F 273 4 = some (.lload_n 3, 1, 0, 0, .null, .int) := by decide +kernel
theorem jF_273_5 : j_F 273 5 = some (.lconst 0, 1, 0, 0, .null, .int) := by decide +kernel
theorem jF_273_6 : j_F 273 6 = some (.lcmp, 1, 0, 0, .null, .int) := by decide +kernel
theorem jF_273_7 : j_F 273 7 = some (.ifCond .eq 15, 3, 22, 0, .null, .int) := by decide +kernel
theorem jF_273_10 : j_F 273 10 = some (.iinc 2 1, 3, 0, 0, .null, .int) := by decide +kernel
theorem jF_273_13 : j_F 273 13 = some (.lload_n 3, 1, 0, 0, .null, .int) := by decide +kernel
theorem jF_273_14 : j_F 273 14 = some (.lload_n 3, 1, 0, 0, .null, .int) := by decide +kernel
theorem jF_273_15 : j_F 273 15 = some (.lconst 1, 1, 0, 0, .null, .int) := by decide +kernel
theorem jF_273_16 : j_F 273 16 = some (.lsub, 1, 0, 0, .null, .int) := by decide +kernel
theorem jF_273_17 : j_F 273 17 = some (.land, 1, 0, 0, .null, .int) := by decide +kernel
theorem jF_273_18 : j_F 273 18 = some (.lstore_n 3, 1, 0, 0, .null, .int) := by decide +kernel
theorem jF_273_19 : j_F 273 19 = some (.goto (-15), 3, 4, 0, .null, .int) := by decide +kernel
theorem jF_273_22 : j_F 273 22 = some (.iload_n 2, 1, 0, 0, .null, .int) := by decide +kernel
theorem jF_273_23 : j_F 273 23 = some (.ireturn, 1, 0, 0, .null, .int) := by decide +kernel
theorem jF_284_0 : j_F 284 0 = some (.iload_n 1, 1, 0, 0, .null, .int) := by decide +kernel
theorem jF_284_1 : j_F 284 1 = some (.i2l, 1, 0, 0, .null, .int) := by decide +kernel
theorem jF_284_2 : j_F 284 2 = some (.lconst 0, 1, 0, 0, .null, .int) := by decide +kernel
theorem jF_284_3 : j_F 284 3 = some (.aload_n 0, 1, 0, 0, .null, .int) := by decide +kernel
theorem jF_284_4 : j_F 284 4 = some (.getfield 109, 3, 12, 47, .null, (.array .int)) := by decide +kernel
theorem jF_284_7 : j_F 284 7 = some (.iconst 0, 1, 0, 0, .null, .int) := by decide +kernel
theorem jF_284_8 : j_F 284 8 = some (.iaload, 1, 0, 0, .null, .int) := by decide +kernel
theorem jF_284_9 : j_F 284 9 = some (.iconst 1, 1, 0, 0, .null, .int) := by decide +kernel
theorem jF_284_10 : j_F 284 10 = some (.isub, 1, 0, 0, .null, .int) := by decide +kernel
theorem jF_284_11 : j_F 284 11 = some (.i2l, 1, 0, 0, .null, .int) := by decide +kernel
theorem jF_284_12 : j_F 284 12 = some (.invokestatic 252, 3, 232, 3, .null, .int) := by decide +kernel
theorem jF_284_15 : j_F 284 15 = some (.ifCond .ne 5, 3, 20, 0, .null, .int) := by decide +kernel
theorem jF_284_18 : j_F 284 18 = some (.iconst (-1), 1, 0, 0, .null, .int) := by decide +kernel
theorem jF_284_19 : j_F 284 19 = some (.ireturn, 1, 0, 0, .null, .int) := by decide +kernel
theorem jF_284_20 : j_F 284 20 = some (.aload_n 0, 1, 0, 0, .null, .int) := by decide +kernel
theorem jF_284_21 : j_F 284 21 = some (.iconst 0, 1, 0, 0, .null, .int) := by decide +kernel
theorem jF_284_22 : j_F 284 22 = some (.invokevirtual 448, 3, 277, 2, .null, .int) := by decide +kernel
theorem jF_284_25 : j_F 284 25 = some (.lstore_n 2, 1, 0, 0, .null, .int) := by decide +kernel
theorem jF_284_26 : j_F 284 26 = some (.aload_n 0, 1, 0, 0, .null, .int) := by decide +kernel
theorem jF_284_27 : j_F 284 27 = some (.iload_n 1, 1, 0, 0, .null, .int) := by decide +kernel
theorem jF_284_28 : j_F 284 28 = some (.invokevirtual 451, 3, 281, 2, .null, .int) := by decide +kernel
theorem jF_284_31 : j_F 284 31 = some (.aload_n 0, 1, 0, 0, .null, .int) := by decide +kernel
theorem jF_284_32 : j_F 284 32 = some (.invokevirtual 422, 3, 282, 1, .null, .int) := by decide +kernel
theorem jF_284_35 : j_F 284 35 = some (.ifCond .eq 15, 3, 50, 0, .null, .int) := by decide +kernel
theorem jF_284_38 : j_F 284 38 = some (.lload_n 2, 1, 0, 0, .null, .int) := by decide +kernel
theorem jF_284_39 : j_F 284 39 = some (.aload_n 0, 1, 0, 0, .null, .int) := by decide +kernel
theorem jF_284_40 : j_F 284 40 = some (.invokevirtual 419, 3, 259, 1, .null, .int) := by decide +kernel
theorem jF_284_43 : j_F 284 43 = some (.lxor, 1, 0, 0, .null, .int) := by decide +kernel
theorem jF_284_44 : j_F 284 44 = some (.invokestatic 439, 3, 273, 1, .null, .int) := by decide +kernel
theorem jF_284_47 : j_F 284 47 = some (.goto 4, 3, 51, 0, .null, .int) := by decide +kernel
theorem jF_284_50 : j_F 284 50 = some (.iconst (-1), 1, 0, 0, .null, .int) := by decide +kernel
theorem jF_284_51 : j_F 284 51 = some (.ireturn, 1, 0, 0, .null, .int) := by decide +kernel
theorem jF_298_0 : j_F 298 0 = some (.iload_n 1, 1, 0, 0, .null, .int) := by decide +kernel
theorem jF_298_1 : j_F 298 1 = some (.i2l, 1, 0, 0, .null, .int) := by decide +kernel
theorem jF_298_2 : j_F 298 2 = some (.lconst 0, 1, 0, 0, .null, .int) := by decide +kernel
theorem jF_298_3 : j_F 298 3 = some (.aload_n 0, 1, 0, 0, .null, .int) := by decide +kernel
theorem jF_298_4 : j_F 298 4 = some (.getfield 478, 3, 12, 56, .null, .int) := by decide +kernel
theorem jF_298_7 : j_F 298 7 = some (.iconst 1, 1, 0, 0, .null, .int) := by decide +kernel
theorem jF_298_8 : j_F 298 8 = some (.isub, 1, 0, 0, .null, .int) := by decide +kernel
theorem jF_298_9 : j_F 298 9 = some (.i2l, 1, 0, 0, .null, .int) := by decide +kernel
theorem jF_298_10 : j_F 298 10 = some (.invokestatic 252, 3, 232, 3, .null, .int) := by decide +kernel
theorem jF_298_13 : j_F 298 13 = some (.ifCond .ne 5, 3, 18, 0, .null, .int) := by decide +kernel
theorem jF_298_16 : j_F 298 16 = some (.iconst (-1), 1, 0, 0, .null, .int) := by decide +kernel
theorem jF_298_17 : j_F 298 17 = some (.ireturn, 1, 0, 0, .null, .int) := by decide +kernel
theorem jF_298_18 : j_F 298 18 = some (.iload_n 2, 1, 0, 0, .null, .int) := by decide +kernel
theorem jF_298_19 : j_F 298 19 = some (.tableswitch 56 0 2 #[25, 32, 42], 25, 0, 0, .null, .int) := by decide +kernel
theorem jF_298_44 : j_F 298 44 = some (.aload_n 0, 1, 0, 0, .null, .int) := by decide +kernel
theorem jF_298_45 : j_F 298 45 = some (.getfield 124, 3, 12, 55, .null, (.array .int)) := by decide +kernel
theorem jF_298_48 : j_F 298 48 = some (.iload_n 1, 1, 0, 0, .null, .int) := by decide +kernel
theorem jF_298_49 : j_F 298 49 = some (.iaload, 1, 0, 0, .null, .int) := by decide +kernel
theorem jF_298_50 : j_F 298 50 = some (.ireturn, 1, 0, 0, .null, .int) := by decide +kernel
theorem jF_298_51 : j_F 298 51 = some (.aload_n 0, 1, 0, 0, .null, .int) := by decide +kernel
theorem jF_298_52 : j_F 298 52 = some (.getfield 121, 3, 12, 54, .null, (.array .long)) := by decide +kernel
theorem jF_298_55 : j_F 298 55 = some (.iload_n 1, 1, 0, 0, .null, .int) := by decide +kernel
theorem jF_298_56 : j_F 298 56 = some (.laload, 1, 0, 0, .null, .int) := by decide +kernel
theorem jF_298_57 : j_F 298 57 = some (.invokestatic 439, 3, 273, 1, .null, .int) := by decide +kernel
theorem jF_298_60 : j_F 298 60 = some (.ireturn, 1, 0, 0, .null, .int) := by decide +kernel
theorem jF_298_61 : j_F 298 61 = some (.aload_n 0, 1, 0, 0, .null, .int) := by decide +kernel
theorem jF_298_62 : j_F 298 62 = some (.iload_n 1, 1, 0, 0, .null, .int) := by decide +kernel
theorem jF_298_63 : j_F 298 63 = some (.invokevirtual 515, 3, 299, 2, .null, .int) := by decide +kernel
theorem jF_298_66 : j_F 298 66 = some (.ifCond .eq 7, 3, 73, 0, .null, .int) := by decide +kernel
theorem jF_298_69 : j_F 298 69 = some (.iconst 1, 1, 0, 0, .null, .int) := by decide +kernel
theorem jF_298_70 : j_F 298 70 = some (.goto 4, 3, 74, 0, .null, .int) := by decide +kernel
theorem jF_298_73 : j_F 298 73 = some (.iconst 0, 1, 0, 0, .null, .int) := by decide +kernel
theorem jF_298_74 : j_F 298 74 = some (.ireturn, 1, 0, 0, .null, .int) := by decide +kernel
theorem jF_298_75 : j_F 298 75 = some (.iconst (-1), 1, 0, 0, .null, .int) := by decide +kernel
theorem jF_298_76 : j_F 298 76 = some (.ireturn, 1, 0, 0, .null, .int) := by decide +kernel
theorem jF_311_0 : j_F 311 0 = some (.aload_n 0, 1, 0, 0, .null, .int) := by decide +kernel
theorem jF_311_1 : j_F 311 1 = some (.iload_n 2, 1, 0, 0, .null, .int) := by decide +kernel
theorem jF_311_2 : j_F 311 2 = some (.invokevirtual 546, 3, 312, 2, .null, .int) := by decide +kernel
theorem jF_311_5 : j_F 311 5 = some (.ifCond .eq 19, 3, 24, 0, .null, .int) := by decide +kernel
theorem jF_311_8 : j_F 311 8 = some (.aload_n 0, 1, 0, 0, .null, .int) := by decide +kernel
theorem jF_311_9 : j_F 311 9 = some (.aload_n 0, 1, 0, 0, .null, .int) := by decide +kernel
theorem jF_311_10 : j_F 311 10 = some (.iload_n 1, 1, 0, 0, .null, .int) := by decide +kernel
theorem jF_311_11 : j_F 311 11 = some (.invokestatic 432, 3, 269, 1, .null, .int) := by decide +kernel
theorem jF_311_14 : j_F 311 14 = some (.invokevirtual 448, 3, 277, 2, .null, .int) := by decide +kernel
theorem jF_311_17 : j_F 311 17 = some (.iload_n 2, 1, 0, 0, .null, .int) := by decide +kernel
theorem jF_311_18 : j_F 311 18 = some (.invokevirtual 549, 3, 313, 3, .null, .int) := by decide +kernel
theorem jF_311_21 : j_F 311 21 = some (.goto 4, 3, 25, 0, .null, .int) := by decide +kernel
theorem jF_311_24 : j_F 311 24 = some (.iconst (-1), 1, 0, 0, .null, .int) := by decide +kernel
theorem jF_311_25 : j_F 311 25 = some (.ireturn, 1, 0, 0, .null, .int) := by decide +kernel
theorem jF_313_0 : j_F 313 0 = some (.iconst 0, 1, 0, 0, .null, .int) := by decide +kernel
theorem jF_313_1 : j_F 313 1 = some (.istore 4, 2, 0, 0, .null, .int) := by decide +kernel
theorem jF_313_3 : j_F 313 3 = some (.iconst 0, 1, 0, 0, .null, .int) := by decide +kernel
theorem jF_313_4 : j_F 313 4 = some (.istore 5, 2, 0, 0, .null, .int) := by decide +kernel
theorem jF_313_6 : j_F 313 6 = some (.iload 5, 2, 0, 0, .null, .int) := by decide +kernel
theorem jF_313_8 : j_F 313 8 = some (.aload_n 0, 1, 0, 0, .null, .int) := by decide +kernel
theorem jF_313_9 : j_F 313 9 = some (.getfield 91, 3, 12, 36, .null, (.array .int)) := by decide +kernel
theorem jF_313_12 : j_F 313 12 = some (.iconst 3, 1, 0, 0, .null, .int) := by decide +kernel
theorem jF_313_13 : j_F 313 13 = some (.iaload, 1, 0, 0, .null, .int) := by decide +kernel
theorem jF_313_14 : j_F 313 14 = some (.if_icmp .ge 89, 3, 103, 0, .null, .int) := by decide +kernel
theorem jF_313_17 : j_F 313 17 = some (.sipush 204, 3, 0, 0, .null, .int) := by decide +kernel
theorem jF_313_20 : j_F 313 20 = some (.bipush 6, 2, 0, 0, .null, .int) := by decide +kernel
theorem jF_313_22 : j_F 313 22 = some (.iload 5, 2, 0, 0, .null, .int) := by decide +kernel
theorem jF_313_24 : j_F 313 24 = some (.imul, 1, 0, 0, .null, .int) := by decide +kernel
theorem jF_313_25 : j_F 313 25 = some (.iadd, 1, 0, 0, .null, .int) := by decide +kernel
theorem jF_313_26 : j_F 313 26 = some (.istore 6, 2, 0, 0, .null, .int) := by decide +kernel
theorem jF_313_28 : j_F 313 28 = some (.aload_n 0, 1, 0, 0, .null, .int) := by decide +kernel
theorem jF_313_29 : j_F 313 29 = some (.getfield 88, 3, 12, 35, .null, (.array .int)) := by decide +kernel
theorem jF_313_32 : j_F 313 32 = some (.iload 6, 2, 0, 0, .null, .int) := by decide +kernel
theorem jF_313_34 : j_F 313 34 = some (.iconst 4, 1, 0, 0, .null, .int) := by decide +kernel
theorem jF_313_35 : j_F 313 35 = some (.iadd, 1, 0, 0, .null, .int) := by decide +kernel
theorem jF_313_36 : j_F 313 36 = some (.iaload, 1, 0, 0, .null, .int) := by decide +kernel
theorem jF_313_37 : j_F 313 37 = some (.iload_n 3, 1, 0, 0, .null, .int) := by decide +kernel
theorem jF_313_38 : j_F 313 38 = some (.if_icmp .ne 59, 3, 97, 0, .null, .int) := by decide +kernel
theorem jF_313_41 : j_F 313 41 = some (.iload 4, 2, 0, 0, .null, .int) := by decide +kernel
theorem jF_313_43 : j_F 313 43 = some (.aload_n 0, 1, 0, 0, .null, .int) := by decide +kernel
theorem jF_313_44 : j_F 313 44 = some (.getfield 88, 3, 12, 35, .null, (.array .int)) := by decide +kernel
theorem jF_313_47 : j_F 313 47 = some (.iload 6, 2, 0, 0, .null, .int) := by decide +kernel
theorem jF_313_49 : j_F 313 49 = some (.iconst 5, 1, 0, 0, .null, .int) := by decide +kernel
theorem jF_313_50 : j_F 313 50 = some (.iadd, 1, 0, 0, .null, .int) := by decide +kernel
theorem jF_313_51 : j_F 313 51 = some (.iaload, 1, 0, 0, .null, .int) := by decide +kernel
theorem jF_313_52 : j_F 313 52 = some (.aload_n 0, 1, 0, 0, .null, .int) := by decide +kernel
theorem jF_313_53 : j_F 313 53 = some (.getfield 88, 3, 12, 35, .null, (.array .int)) := by decide +kernel
theorem jF_313_56 : j_F 313 56 = some (.iload 6, 2, 0, 0, .null, .int) := by decide +kernel
theorem jF_313_58 : j_F 313 58 = some (.iconst 3, 1, 0, 0, .null, .int) := by decide +kernel
theorem jF_313_59 : j_F 313 59 = some (.iadd, 1, 0, 0, .null, .int) := by decide +kernel
theorem jF_313_60 : j_F 313 60 = some (.iaload, 1, 0, 0, .null, .int) := by decide +kernel
theorem jF_313_61 : j_F 313 61 = some (.iconst 1, 1, 0, 0, .null, .int) := by decide +kernel
theorem jF_313_62 : j_F 313 62 = some (.if_icmp .ne 15, 3, 77, 0, .null, .int) := by decide +kernel
theorem jF_313_65 : j_F 313 65 = some (.aload_n 0, 1, 0, 0, .null, .int) := by decide +kernel
theorem jF_313_66 : j_F 313 66 = some (.getfield 100, 3, 12, 41, .null, (.array .long)) := by decide +kernel
theorem jF_313_69 : j_F 313 69 = some (.iload 5, 2, 0, 0, .null, .int) := by decide +kernel
theorem jF_313_71 : j_F 313 71 = some (.laload, 1, 0, 0, .null, .int) := by decide +kernel
theorem jF_313_72 : j_F 313 72 = some (.lload_n 1, 1, 0, 0, .null, .int) := by decide +kernel
theorem jF_313_73 : j_F 313 73 = some (.land, 1, 0, 0, .null, .int) := by decide +kernel
theorem jF_313_74 : j_F 313 74 = some (.goto 16, 3, 90, 0, .null, .int) := by decide +kernel
theorem jF_313_77 : j_F 313 77 = some (.aload_n 0, 1, 0, 0, .null, .int) := by decide +kernel
theorem jF_313_78 : j_F 313 78 = some (.getfield 100, 3, 12, 41, .null, (.array .long)) := by decide +kernel
theorem jF_313_81 : j_F 313 81 = some (.iload 5, 2, 0, 0, .null, .int) := by decide +kernel
theorem jF_313_83 : j_F 313 83 = some (.laload, 1, 0, 0, .null, .int) := by decide +kernel
theorem jF_313_84 : j_F 313 84 = some (.lload_n 1, 1, 0, 0, .null, .int) := by decide +kernel
theorem jF_313_85 : j_F 313 85 = some (.ldc2_w 407, 3, 0, 0, (.long (-1)), .int) := by decide +kernel
theorem jF_313_88 : j_F 313 88 = some (.lxor, 1, 0, 0, .null, .int) := by decide +kernel
theorem jF_313_89 : j_F 313 89 = some (.land, 1, 0, 0, .null, .int) := by decide +kernel
theorem jF_313_90 : j_F 313 90 = some (.invokestatic 439, 3, 273, 1, .null, .int) := by decide +kernel
theorem jF_313_93 : j_F 313 93 = some (.imul, 1, 0, 0, .null, .int) := by decide +kernel
theorem jF_313_94 : j_F 313 94 = some (.iadd, 1, 0, 0, .null, .int) := by decide +kernel
theorem jF_313_95 : j_F 313 95 = some (.istore 4, 2, 0, 0, .null, .int) := by decide +kernel
theorem jF_313_97 : j_F 313 97 = some (.iinc 5 1, 3, 0, 0, .null, .int) := by decide +kernel
theorem jF_313_100 : j_F 313 100 = some (.goto (-94), 3, 6, 0, .null, .int) := by decide +kernel
theorem jF_313_103 : j_F 313 103 = some (.iload 4, 2, 0, 0, .null, .int) := by decide +kernel
theorem jF_313_105 : j_F 313 105 = some (.ireturn, 1, 0, 0, .null, .int) := by decide +kernel
theorem jF_314_0 : j_F 314 0 = some (.aload_n 0, 1, 0, 0, .null, .int) := by decide +kernel
theorem jF_314_1 : j_F 314 1 = some (.iconst 0, 1, 0, 0, .null, .int) := by decide +kernel
theorem jF_314_2 : j_F 314 2 = some (.invokevirtual 448, 3, 277, 2, .null, .int) := by decide +kernel
theorem jF_314_5 : j_F 314 5 = some (.lstore_n 2, 1, 0, 0, .null, .int) := by decide +kernel
theorem jF_314_6 : j_F 314 6 = some (.aload_n 0, 1, 0, 0, .null, .int) := by decide +kernel
theorem jF_314_7 : j_F 314 7 = some (.iconst 1, 1, 0, 0, .null, .int) := by decide +kernel
theorem jF_314_8 : j_F 314 8 = some (.invokevirtual 448, 3, 277, 2, .null, .int) := by decide +kernel
theorem jF_314_11 : j_F 314 11 = some (.lstore 4, 2, 0, 0, .null, .int) := by decide +kernel
theorem jF_314_13 : j_F 314 13 = some (.iload_n 1, 1, 0, 0, .null, .int) := by decide +kernel
theorem jF_314_14 : j_F 314 14 = some (.ifCond .eq 13, 3, 27, 0, .null, .int) := by decide +kernel
theorem jF_314_17 : j_F 314 17 = some (.aload_n 0, 1, 0, 0, .null, .int) := by decide +kernel
theorem jF_314_18 : j_F 314 18 = some (.lload 4, 2, 0, 0, .null, .int) := by decide +kernel
theorem jF_314_20 : j_F 314 20 = some (.lload_n 2, 1, 0, 0, .null, .int) := by decide +kernel
theorem jF_314_21 : j_F 314 21 = some (.invokevirtual 552, 3, 315, 3, .null, .int) := by decide +kernel
theorem jF_314_24 : j_F 314 24 = some (.goto 10, 3, 34, 0, .null, .int) := by decide +kernel
theorem jF_314_27 : j_F 314 27 = some (.aload_n 0, 1, 0, 0, .null, .int) := by decide +kernel
theorem jF_314_28 : j_F 314 28 = some (.lload_n 2, 1, 0, 0, .null, .int) := by decide +kernel
theorem jF_314_29 : j_F 314 29 = some (.lload 4, 2, 0, 0, .null, .int) := by decide +kernel
theorem jF_314_31 : j_F 314 31 = some (.invokevirtual 552, 3, 315, 3, .null, .int) := by decide +kernel
theorem jF_314_34 : j_F 314 34 = some (.ireturn, 1, 0, 0, .null, .int) := by decide +kernel
theorem jF_315_0 : j_F 315 0 = some (.iconst 0, 1, 0, 0, .null, .int) := by decide +kernel
theorem jF_315_1 : j_F 315 1 = some (.istore 5, 2, 0, 0, .null, .int) := by decide +kernel
theorem jF_315_3 : j_F 315 3 = some (.iconst 0, 1, 0, 0, .null, .int) := by decide +kernel
theorem jF_315_4 : j_F 315 4 = some (.istore 6, 2, 0, 0, .null, .int) := by decide +kernel
theorem jF_315_6 : j_F 315 6 = some (.iload 6, 2, 0, 0, .null, .int) := by decide +kernel
theorem jF_315_8 : j_F 315 8 = some (.aload_n 0, 1, 0, 0, .null, .int) := by decide +kernel
theorem jF_315_9 : j_F 315 9 = some (.getfield 340, 3, 12, 34, .null, .int) := by decide +kernel
theorem jF_315_12 : j_F 315 12 = some (.if_icmp .ge 40, 3, 52, 0, .null, .int) := by decide +kernel
theorem jF_315_15 : j_F 315 15 = some (.aload_n 0, 1, 0, 0, .null, .int) := by decide +kernel
theorem jF_315_16 : j_F 315 16 = some (.lload_n 1, 1, 0, 0, .null, .int) := by decide +kernel
theorem jF_315_17 : j_F 315 17 = some (.iload 6, 2, 0, 0, .null, .int) := by decide +kernel
theorem jF_315_19 : j_F 315 19 = some (.invokevirtual 549, 3, 313, 3, .null, .int) := by decide +kernel
theorem jF_315_22 : j_F 315 22 = some (.aload_n 0, 1, 0, 0, .null, .int) := by decide +kernel
theorem jF_315_23 : j_F 315 23 = some (.lload_n 3, 1, 0, 0, .null, .int) := by decide +kernel
theorem jF_315_24 : j_F 315 24 = some (.iload 6, 2, 0, 0, .null, .int) := by decide +kernel
theorem jF_315_26 : j_F 315 26 = some (.invokevirtual 549, 3, 313, 3, .null, .int) := by decide +kernel
theorem jF_315_29 : j_F 315 29 = some (.if_icmp .le 17, 3, 46, 0, .null, .int) := by decide +kernel
theorem jF_315_32 : j_F 315 32 = some (.iload 5, 2, 0, 0, .null, .int) := by decide +kernel
theorem jF_315_34 : j_F 315 34 = some (.aload_n 0, 1, 0, 0, .null, .int) := by decide +kernel
theorem jF_315_35 : j_F 315 35 = some (.getfield 85, 3, 12, 32, .null, (.array .int)) := by decide +kernel
theorem jF_315_38 : j_F 315 38 = some (.iconst 5, 1, 0, 0, .null, .int) := by decide +kernel
theorem jF_315_39 : j_F 315 39 = some (.iload 6, 2, 0, 0, .null, .int) := by decide +kernel
theorem jF_315_41 : j_F 315 41 = some (.iadd, 1, 0, 0, .null, .int) := by decide +kernel
theorem jF_315_42 : j_F 315 42 = some (.iaload, 1, 0, 0, .null, .int) := by decide +kernel
theorem jF_315_43 : j_F 315 43 = some (.iadd, 1, 0, 0, .null, .int) := by decide +kernel
theorem jF_315_44 : j_F 315 44 = some (.istore 5, 2, 0, 0, .null, .int) := by decide +kernel
theorem jF_315_46 : j_F 315 46 = some (.iinc 6 1, 3, 0, 0, .null, .int) := by decide +kernel
theorem jF_315_49 : j_F 315 49 = some (.goto (-43), 3, 6, 0, .null, .int) := by decide +kernel
theorem jF_315_52 : j_F 315 52 = some (.iload 5, 2, 0, 0, .null, .int) := by decide +kernel
theorem jF_315_54 : j_F 315 54 = some (.ireturn, 1, 0, 0, .null, .int) := by decide +kernel
theorem jF_316_0 : j_F 316 0 = some (.aload_n 0, 1, 0, 0, .null, .int) := by decide +kernel
theorem jF_316_1 : j_F 316 1 = some (.invokevirtual 560, 3, 317, 1, .null, .int) := by decide +kernel
theorem jF_316_4 : j_F 316 4 = some (.ifCond .eq 7, 3, 11, 0, .null, .int) := by decide +kernel
theorem jF_316_7 : j_F 316 7 = some (.iconst 0, 1, 0, 0, .null, .int) := by decide +kernel
theorem jF_316_8 : j_F 316 8 = some (.goto 4, 3, 12, 0, .null, .int) := by decide +kernel
theorem jF_316_11 : j_F 316 11 = some (.iconst 1, 1, 0, 0, .null, .int) := by decide +kernel
theorem jF_316_12 : j_F 316 12 = some (.ireturn, 1, 0, 0, .null, .int) := by decide +kernel
theorem jF_317_0 : j_F 317 0 = some (.aload_n 0, 1, 0, 0, .null, .int) := by decide +kernel
theorem jF_317_1 : j_F 317 1 = some (.iconst 0, 1, 0, 0, .null, .int) := by decide +kernel
theorem jF_317_2 : j_F 317 2 = some (.invokevirtual 448, 3, 277, 2, .null, .int) := by decide +kernel
theorem jF_317_5 : j_F 317 5 = some (.lstore_n 1, 1, 0, 0, .null, .int) := by decide +kernel
theorem jF_317_6 : j_F 317 6 = some (.iconst 0, 1, 0, 0, .null, .int) := by decide +kernel
theorem jF_317_7 : j_F 317 7 = some (.istore_n 3, 1, 0, 0, .null, .int) := by decide +kernel
theorem jF_317_8 : j_F 317 8 = some (.iload_n 3, 1, 0, 0, .null, .int) := by decide +kernel
theorem jF_317_9 : j_F 317 9 = some (.aload_n 0, 1, 0, 0, .null, .int) := by decide +kernel
theorem jF_317_10 : j_F 317 10 = some (.getfield 109, 3, 12, 47, .null, (.array .int)) := by decide +kernel
theorem jF_317_13 : j_F 317 13 = some (.iconst 0, 1, 0, 0, .null, .int) := by decide +kernel
theorem jF_317_14 : j_F 317 14 = some (.iaload, 1, 0, 0, .null, .int) := by decide +kernel
theorem jF_317_15 : j_F 317 15 = some (.if_icmp .gt 106, 3, 121, 0, .null, .int) := by decide +kernel
theorem jF_317_18 : j_F 317 18 = some (.aload_n 0, 1, 0, 0, .null, .int) := by decide +kernel
theorem jF_317_19 : j_F 317 19 = some (.iconst 0, 1, 0, 0, .null, .int) := by decide +kernel
theorem jF_317_20 : j_F 317 20 = some (.iconst 1, 1, 0, 0, .null, .int) := by decide +kernel
theorem jF_317_21 : j_F 317 21 = some (.iload_n 3, 1, 0, 0, .null, .int) := by decide +kernel
theorem jF_317_22 : j_F 317 22 = some (.iconst 0, 1, 0, 0, .null, .int) := by decide +kernel
theorem jF_317_23 : j_F 317 23 = some (.invokevirtual 465, 3, 288, 5, .null, .int) := by decide +kernel
theorem jF_317_26 : j_F 317 26 = some (.ifCond .eq 13, 3, 39, 0, .null, .int) := by decide +kernel
theorem jF_317_29 : j_F 317 29 = some (.aload_n 0, 1, 0, 0, .null, .int) := by decide +kernel
theorem jF_317_30 : j_F 317 30 = some (.lload_n 1, 1, 0, 0, .null, .int) := by decide +kernel
theorem jF_317_31 : j_F 317 31 = some (.invokevirtual 556, 3, 318, 2, .null, .int) := by decide +kernel
theorem jF_317_34 : j_F 317 34 = some (.ifCond .eq 5, 3, 39, 0, .null, .int) := by decide +kernel
theorem jF_317_37 : j_F 317 37 = some (.iconst 1, 1, 0, 0, .null, .int) := by decide +kernel
theorem jF_317_38 : j_F 317 38 = some (.ireturn, 1, 0, 0, .null, .boolean) := by decide +kernel
theorem jF_317_39 : j_F 317 39 = some (.iconst 0, 1, 0, 0, .null, .int) := by decide +kernel
theorem jF_317_40 : j_F 317 40 = some (.istore 4, 2, 0, 0, .null, .int) := by decide +kernel
theorem jF_317_42 : j_F 317 42 = some (.iload 4, 2, 0, 0, .null, .int) := by decide +kernel
theorem jF_317_44 : j_F 317 44 = some (.bipush 23, 2, 0, 0, .null, .int) := by decide +kernel
theorem jF_317_46 : j_F 317 46 = some (.if_icmp .ge 31, 3, 77, 0, .null, .int) := by decide +kernel
theorem jF_317_49 : j_F 317 49 = some (.aload_n 0, 1, 0, 0, .null, .int) := by decide +kernel
theorem jF_317_50 : j_F 317 50 = some (.iconst 0, 1, 0, 0, .null, .int) := by decide +kernel
theorem jF_317_51 : j_F 317 51 = some (.iconst 2, 1, 0, 0, .null, .int) := by decide +kernel
theorem jF_317_52 : j_F 317 52 = some (.iload_n 3, 1, 0, 0, .null, .int) := by decide +kernel
theorem jF_317_53 : j_F 317 53 = some (.iload 4, 2, 0, 0, .null, .int) := by decide +kernel
theorem jF_317_55 : j_F 317 55 = some (.invokevirtual 465, 3, 288, 5, .null, .int) := by decide +kernel
theorem jF_317_58 : j_F 317 58 = some (.ifCond .eq 13, 3, 71, 0, .null, .int) := by decide +kernel
theorem jF_317_61 : j_F 317 61 = some (.aload_n 0, 1, 0, 0, .null, .int) := by decide +kernel
theorem jF_317_62 : j_F 317 62 = some (.lload_n 1, 1, 0, 0, .null, .int) := by decide +kernel
theorem jF_317_63 : j_F 317 63 = some (.invokevirtual 556, 3, 318, 2, .null, .int) := by decide +kernel
theorem jF_317_66 : j_F 317 66 = some (.ifCond .eq 5, 3, 71, 0, .null, .int) := by decide +kernel
theorem jF_317_69 : j_F 317 69 = some (.iconst 1, 1, 0, 0, .null, .int) := by decide +kernel
theorem jF_317_70 : j_F 317 70 = some (.ireturn, 1, 0, 0, .null, .boolean) := by decide +kernel
theorem jF_317_71 : j_F 317 71 = some (.iinc 4 1, 3, 0, 0, .null, .int) := by decide +kernel
theorem jF_317_74 : j_F 317 74 = some (.goto (-32), 3, 42, 0, .null, .int) := by decide +kernel
theorem jF_317_77 : j_F 317 77 = some (.iconst 0, 1, 0, 0, .null, .int) := by decide +kernel
theorem jF_317_78 : j_F 317 78 = some (.istore 4, 2, 0, 0, .null, .int) := by decide +kernel
theorem jF_317_80 : j_F 317 80 = some (.iload 4, 2, 0, 0, .null, .int) := by decide +kernel
theorem jF_317_82 : j_F 317 82 = some (.bipush 23, 2, 0, 0, .null, .int) := by decide +kernel
theorem jF_317_84 : j_F 317 84 = some (.if_icmp .ge 31, 3, 115, 0, .null, .int) := by decide +kernel
theorem jF_317_87 : j_F 317 87 = some (.aload_n 0, 1, 0, 0, .null, .int) := by decide +kernel
theorem jF_317_88 : j_F 317 88 = some (.iconst 0, 1, 0, 0, .null, .int) := by decide +kernel
theorem jF_317_89 : j_F 317 89 = some (.iconst 0, 1, 0, 0, .null, .int) := by decide +kernel
theorem jF_317_90 : j_F 317 90 = some (.iload_n 3, 1, 0, 0, .null, .int) := by decide +kernel
theorem jF_317_91 : j_F 317 91 = some (.iload 4, 2, 0, 0, .null, .int) := by decide +kernel
theorem jF_317_93 : j_F 317 93 = some (.invokevirtual 465, 3, 288, 5, .null, .int) := by decide +kernel
theorem jF_317_96 : j_F 317 96 = some (.ifCond .eq 13, 3, 109, 0, .null, .int) := by decide +kernel
theorem jF_317_99 : j_F 317 99 = some (.aload_n 0, 1, 0, 0, .null, .int) := by decide +kernel
theorem jF_317_100 : j_F 317 100 = some (.lload_n 1, 1, 0, 0, .null, .int) := by decide +kernel
theorem jF_317_101 : j_F 317 101 = some (.invokevirtual 556, 3, 318, 2, .null, .int) := by decide +kernel
theorem jF_317_104 : j_F 317 104 = some (.ifCond .eq 5, 3, 109, 0, .null, .int) := by decide +kernel
theorem jF_317_107 : j_F 317 107 = some (.iconst 1, 1, 0, 0, .null, .int) := by decide +kernel
theorem jF_317_108 : j_F 317 108 = some (.ireturn, 1, 0, 0, .null, .boolean) := by decide +kernel
theorem jF_317_109 : j_F 317 109 = some (.iinc 4 1, 3, 0, 0, .null, .int) := by decide +kernel
theorem jF_317_112 : j_F 317 112 = some (.goto (-32), 3, 80, 0, .null, .int) := by decide +kernel
theorem jF_317_115 : j_F 317 115 = some (.iinc 3 1, 3, 0, 0, .null, .int) := by decide +kernel
theorem jF_317_118 : j_F 317 118 = some (.goto (-110), 3, 8, 0, .null, .int) := by decide +kernel
theorem jF_317_121 : j_F 317 121 = some (.iconst 0, 1, 0, 0, .null, .int) := by decide +kernel
theorem jF_317_122 : j_F 317 122 = some (.ireturn, 1, 0, 0, .null, .boolean) := by decide +kernel
theorem jF_318_0 : j_F 318 0 = some (.aload_n 0, 1, 0, 0, .null, .int) := by decide +kernel
theorem jF_318_1 : j_F 318 1 = some (.invokevirtual 469, 3, 290, 1, .null, .int) := by decide +kernel
theorem jF_318_4 : j_F 318 4 = some (.ifCond .ne 5, 3, 9, 0, .null, .int) := by decide +kernel
theorem jF_318_7 : j_F 318 7 = some (.iconst 0, 1, 0, 0, .null, .int) := by decide +kernel
theorem jF_318_8 : j_F 318 8 = some (.ireturn, 1, 0, 0, .null, .boolean) := by decide +kernel
theorem jF_318_9 : j_F 318 9 = some (.aload_n 0, 1, 0, 0, .null, .int) := by decide +kernel
theorem jF_318_10 : j_F 318 10 = some (.invokevirtual 419, 3, 259, 1, .null, .int) := by decide +kernel
theorem jF_318_13 : j_F 318 13 = some (.lstore_n 3, 1, 0, 0, .null, .int) := by decide +kernel
theorem jF_318_14 : j_F 318 14 = some (.lload_n 3, 1, 0, 0, .null, .int) := by decide +kernel
theorem jF_318_15 : j_F 318 15 = some (.lload_n 1, 1, 0, 0, .null, .int) := by decide +kernel
theorem jF_318_16 : j_F 318 16 = some (.lcmp, 1, 0, 0, .null, .int) := by decide +kernel
theorem jF_318_17 : j_F 318 17 = some (.ifCond .eq 22, 3, 39, 0, .null, .int) := by decide +kernel
theorem jF_318_20 : j_F 318 20 = some (.aload_n 0, 1, 0, 0, .null, .int) := by decide +kernel
theorem jF_318_21 : j_F 318 21 = some (.lload_n 3, 1, 0, 0, .null, .int) := by decide +kernel
theorem jF_318_22 : j_F 318 22 = some (.lload_n 1, 1, 0, 0, .null, .int) := by decide +kernel
theorem jF_318_23 : j_F 318 23 = some (.invokevirtual 552, 3, 315, 3, .null, .int) := by decide +kernel
theorem jF_318_26 : j_F 318 26 = some (.aload_n 0, 1, 0, 0, .null, .int) := by decide +kernel
theorem jF_318_27 : j_F 318 27 = some (.lload_n 1, 1, 0, 0, .null, .int) := by decide +kernel
theorem jF_318_28 : j_F 318 28 = some (.lload_n 3, 1, 0, 0, .null, .int) := by decide +kernel
theorem jF_318_29 : j_F 318 29 = some (.invokevirtual 552, 3, 315, 3, .null, .int) := by decide +kernel
theorem jF_318_32 : j_F 318 32 = some (.if_icmp .le 7, 3, 39, 0, .null, .int) := by decide +kernel
theorem jF_318_35 : j_F 318 35 = some (.iconst 1, 1, 0, 0, .null, .int) := by decide +kernel
theorem jF_318_36 : j_F 318 36 = some (.goto 4, 3, 40, 0, .null, .int) := by decide +kernel
theorem jF_318_39 : j_F 318 39 = some (.iconst 0, 1, 0, 0, .null, .int) := by decide +kernel
theorem jF_318_40 : j_F 318 40 = some (.ireturn, 1, 0, 0, .null, .boolean) := by decide +kernel
theorem jF_319_0 : j_F 319 0 = some (.iload_n 1, 1, 0, 0, .null, .int) := by decide +kernel
theorem jF_319_1 : j_F 319 1 = some (.i2l, 1, 0, 0, .null, .int) := by decide +kernel
theorem jF_319_2 : j_F 319 2 = some (.lconst 1, 1, 0, 0, .null, .int) := by decide +kernel
theorem jF_319_3 : j_F 319 3 = some (.ldc2_w 563, 3, 0, 0, (.long (20)), .int) := by decide +kernel
theorem jF_319_6 : j_F 319 6 = some (.invokestatic 252, 3, 232, 3, .null, .int) := by decide +kernel
theorem jF_319_9 : j_F 319 9 = some (.ifCond .ne 15, 3, 24, 0, .null, .int) := by decide +kernel
theorem jF_319_12 : j_F 319 12 = some (.aload_n 0, 1, 0, 0, .null, .int) := by decide +kernel
theorem jF_319_13 : j_F 319 13 = some (.getfield 17, 3, 12, 9, .null, (.array .int)) := by decide +kernel
theorem jF_319_16 : j_F 319 16 = some (.iconst 2, 1, 0, 0, .null, .int) := by decide +kernel
theorem jF_319_17 : j_F 319 17 = some (.dup2, 1, 0, 0, .null, .int) := by decide +kernel
theorem jF_319_18 : j_F 319 18 = some (.iaload, 1, 0, 0, .null, .int) := by decide +kernel
theorem jF_319_19 : j_F 319 19 = some (.iconst 1, 1, 0, 0, .null, .int) := by decide +kernel
theorem jF_319_20 : j_F 319 20 = some (.iadd, 1, 0, 0, .null, .int) := by decide +kernel
theorem jF_319_21 : j_F 319 21 = some (.iastore, 1, 0, 0, .null, .int) := by decide +kernel
theorem jF_319_22 : j_F 319 22 = some (.iconst (-1), 1, 0, 0, .null, .int) := by decide +kernel
theorem jF_319_23 : j_F 319 23 = some (.ireturn, 1, 0, 0, .null, .int) := by decide +kernel
theorem jF_319_24 : j_F 319 24 = some (.iconst 0, 1, 0, 0, .null, .int) := by decide +kernel
theorem jF_319_25 : j_F 319 25 = some (.istore_n 2, 1, 0, 0, .null, .int) := by decide +kernel
theorem jF_319_26 : j_F 319 26 = some (.iload_n 2, 1, 0, 0, .null, .int) := by decide +kernel
theorem jF_319_27 : j_F 319 27 = some (.iload_n 1, 1, 0, 0, .null, .int) := by decide +kernel
theorem jF_319_28 : j_F 319 28 = some (.if_icmp .ge 25, 3, 53, 0, .null, .int) := by decide +kernel
theorem jF_319_31 : j_F 319 31 = some (.aload_n 0, 1, 0, 0, .null, .int) := by decide +kernel
theorem jF_319_32 : j_F 319 32 = some (.invokevirtual 560, 3, 317, 1, .null, .int) := by decide +kernel
theorem jF_319_35 : j_F 319 35 = some (.ifCond .eq 18, 3, 53, 0, .null, .int) := by decide +kernel
theorem jF_319_38 : j_F 319 38 = some (.aload_n 0, 1, 0, 0, .null, .int) := by decide +kernel
theorem jF_319_39 : j_F 319 39 = some (.invokevirtual 395, 3, 262, 1, .null, .int) := by decide +kernel
theorem jF_319_42 : j_F 319 42 = some (.aload_n 0, 1, 0, 0, .null, .int) := by decide +kernel
theorem jF_319_43 : j_F 319 43 = some (.iconst 0, 1, 0, 0, .null, .int) := by decide +kernel
theorem jF_319_44 : j_F 319 44 = some (.invokevirtual 398, 3, 263, 2, .null, .int) := by decide +kernel
theorem jF_319_47 : j_F 319 47 = some (.iinc 2 1, 3, 0, 0, .null, .int) := by decide +kernel
theorem jF_319_50 : j_F 319 50 = some (.goto (-24), 3, 26, 0, .null, .int) := by decide +kernel
theorem jF_319_53 : j_F 319 53 = some (.iload_n 2, 1, 0, 0, .null, .int) := by decide +kernel
theorem jF_319_54 : j_F 319 54 = some (.ireturn, 1, 0, 0, .null, .int) := by decide +kernel
theorem jF_320_0 : j_F 320 0 = some (.iload_n 1, 1, 0, 0, .null, .int) := by decide +kernel
theorem jF_320_1 : j_F 320 1 = some (.i2l, 1, 0, 0, .null, .int) := by decide +kernel
theorem jF_320_2 : j_F 320 2 = some (.lconst 0, 1, 0, 0, .null, .int) := by decide +kernel
theorem jF_320_3 : j_F 320 3 = some (.ldc2_w 476, 3, 0, 0, (.long (2)), .int) := by decide +kernel
theorem jF_320_6 : j_F 320 6 = some (.invokestatic 252, 3, 232, 3, .null, .int) := by decide +kernel
theorem jF_320_9 : j_F 320 9 = some (.ifCond .ne 5, 3, 14, 0, .null, .int) := by decide +kernel
theorem jF_320_12 : j_F 320 12 = some (.iconst (-1), 1, 0, 0, .null, .int) := by decide +kernel
theorem jF_320_13 : j_F 320 13 = some (.ireturn, 1, 0, 0, .null, .int) := by decide +kernel
theorem jF_320_14 : j_F 320 14 = some (.iconst 0, 1, 0, 0, .null, .int) := by decide +kernel
theorem jF_320_15 : j_F 320 15 = some (.istore_n 2, 1, 0, 0, .null, .int) := by decide +kernel
theorem jF_320_16 : j_F 320 16 = some (.aload_n 0, 1, 0, 0, .null, .int) := by decide +kernel
theorem jF_320_17 : j_F 320 17 = some (.getfield 355, 3, 12, 42, .null, .long) := by decide +kernel
theorem jF_320_20 : j_F 320 20 = some (.lstore_n 3, 1, 0, 0, .null, .int) := by decide +kernel
theorem jF_320_21 : j_F 320 21 = some (.lconst 0, 1, 0, 0, .null, .int) := by decide +kernel
theorem jF_320_22 : j_F 320 22 = some (.lstore 5, 2, 0, 0, .null, .int) := by decide +kernel
theorem jF_320_24 : j_F 320 24 = some (.iconst 0, 1, 0, 0, .null, .int) := by decide +kernel
theorem jF_320_25 : j_F 320 25 = some (.istore 7, 2, 0, 0, .null, .int) := by decide +kernel
theorem jF_320_27 : j_F 320 27 = some (.iload 7, 2, 0, 0, .null, .int) := by decide +kernel
theorem jF_320_29 : j_F 320 29 = some (.aload_n 0, 1, 0, 0, .null, .int) := by decide +kernel
theorem jF_320_30 : j_F 320 30 = some (.getfield 478, 3, 12, 56, .null, .int) := by decide +kernel
theorem jF_320_33 : j_F 320 33 = some (.if_icmp .ge 46, 3, 79, 0, .null, .int) := by decide +kernel
theorem jF_320_36 : j_F 320 36 = some (.aload_n 0, 1, 0, 0, .null, .int) := by decide +kernel
theorem jF_320_37 : j_F 320 37 = some (.iload 7, 2, 0, 0, .null, .int) := by decide +kernel
theorem jF_320_39 : j_F 320 39 = some (.invokevirtual 515, 3, 299, 2, .null, .int) := by decide +kernel
theorem jF_320_42 : j_F 320 42 = some (.ifCond .ne 6, 3, 48, 0, .null, .int) := by decide +kernel
theorem jF_320_45 : j_F 320 45 = some (.goto 28, 3, 73, 0, .null, .int) := by decide +kernel
theorem jF_320_48 : j_F 320 48 = some (.iinc 2 1, 3, 0, 0, .null, .int) := by decide +kernel
theorem jF_320_51 : j_F 320 51 = some (.lload_n 3, 1, 0, 0, .null, .int) := by decide +kernel
theorem jF_320_52 : j_F 320 52 = some (.aload_n 0, 1, 0, 0, .null, .int) := by decide +kernel
theorem jF_320_53 : j_F 320 53 = some (.getfield 121, 3, 12, 54, .null, (.array .long)) := by decide +kernel
theorem jF_320_56 : j_F 320 56 = some (.iload 7, 2, 0, 0, .null, .int) := by decide +kernel
theorem jF_320_58 : j_F 320 58 = some (.laload, 1, 0, 0, .null, .int) := by decide +kernel
theorem jF_320_59 : j_F 320 59 = some (.land, 1, 0, 0, .null, .int) := by decide +kernel
theorem jF_320_60 : j_F 320 60 = some (.lstore_n 3, 1, 0, 0, .null, .int) := by decide +kernel
theorem jF_320_61 : j_F 320 61 = some (.lload 5, 2, 0, 0, .null, .int) := by decide +kernel
theorem jF_320_63 : j_F 320 63 = some (.aload_n 0, 1, 0, 0, .null, .int) := by decide +kernel
theorem jF_320_64 : j_F 320 64 = some (.getfield 121, 3, 12, 54, .null, (.array .long)) := by decide +kernel
theorem jF_320_67 : j_F 320 67 = some (.iload 7, 2, 0, 0, .null, .int) := by decide +kernel
theorem jF_320_69 : j_F 320 69 = some (.laload, 1, 0, 0, .null, .int) := by decide +kernel
theorem jF_320_70 : j_F 320 70 = some (.lor, 1, 0, 0, .null, .int) := by decide +kernel
theorem jF_320_71 : j_F 320 71 = some (.lstore 5, 2, 0, 0, .null, .int) := by decide +kernel
theorem jF_320_73 : j_F 320 73 = some (.iinc 7 1, 3, 0, 0, .null, .int) := by decide +kernel
theorem jF_320_76 : j_F 320 76 = some (.goto (-49), 3, 27, 0, .null, .int) := by decide +kernel
theorem jF_320_79 : j_F 320 79 = some (.iload_n 1, 1, 0, 0, .null, .int) := by decide +kernel
theorem jF_320_80 : j_F 320 80 = some (.ifCond .ne 7, 3, 87, 0, .null, .int) := by decide +kernel
theorem jF_320_83 : j_F 320 83 = some (.iload_n 2, 1, 0, 0, .null, .int) := by decide +kernel
theorem jF_320_84 : j_F 320 84 = some (.goto 28, 3, 112, 0, .null, .int) := by decide +kernel
theorem jF_320_87 : j_F 320 87 = some (.iload_n 1, 1, 0, 0, .null, .int) := by decide +kernel
theorem jF_320_88 : j_F 320 88 = some (.iconst 2, 1, 0, 0, .null, .int) := by decide +kernel
theorem jF_320_89 : j_F 320 89 = some (.if_icmp .ne 11, 3, 100, 0, .null, .int) := by decide +kernel
theorem jF_320_92 : j_F 320 92 = some (.lload 5, 2, 0, 0, .null, .int) := by decide +kernel
theorem jF_320_94 : j_F 320 94 = some (.invokestatic 439, 3, 273, 1, .null, .int) := by decide +kernel
theorem jF_320_97 : j_F 320 97 = some (.goto 15, 3, 112, 0, .null, .int) := by decide +kernel
theorem jF_320_100 : j_F 320 100 = some (.iload_n 2, 1, 0, 0, .null, .int) := by decide +kernel
theorem jF_320_101 : j_F 320 101 = some (.ifCond .ne 7, 3, 108, 0, .null, .int) := by decide +kernel
theorem jF_320_104 : j_F 320 104 = some (.iconst 0, 1, 0, 0, .null, .int) := by decide +kernel
theorem jF_320_105 : j_F 320 105 = some (.goto 7, 3, 112, 0, .null, .int) := by decide +kernel
theorem jF_320_108 : j_F 320 108 = some (.lload_n 3, 1, 0, 0, .null, .int) := by decide +kernel
theorem jF_320_109 : j_F 320 109 = some (.invokestatic 439, 3, 273, 1, .null, .int) := by decide +kernel
theorem jF_320_112 : j_F 320 112 = some (.ireturn, 1, 0, 0, .null, .int) := by decide +kernel
theorem jF_321_0 : j_F 321 0 = some (.aload_n 0, 1, 0, 0, .null, .int) := by decide +kernel
theorem jF_321_1 : j_F 321 1 = some (.iconst 0, 1, 0, 0, .null, .int) := by decide +kernel
theorem jF_321_2 : j_F 321 2 = some (.invokevirtual 448, 3, 277, 2, .null, .int) := by decide +kernel
theorem jF_321_5 : j_F 321 5 = some (.lstore_n 1, 1, 0, 0, .null, .int) := by decide +kernel
theorem jF_321_6 : j_F 321 6 = some (.iconst 0, 1, 0, 0, .null, .int) := by decide +kernel
theorem jF_321_7 : j_F 321 7 = some (.istore_n 3, 1, 0, 0, .null, .int) := by decide +kernel
theorem jF_321_8 : j_F 321 8 = some (.iload_n 3, 1, 0, 0, .null, .int) := by decide +kernel
theorem jF_321_9 : j_F 321 9 = some (.aload_n 0, 1, 0, 0, .null, .int) := by decide +kernel
theorem jF_321_10 : j_F 321 10 = some (.getfield 91, 3, 12, 36, .null, (.array .int)) := by decide +kernel
theorem jF_321_13 : j_F 321 13 = some (.iconst 5, 1, 0, 0, .null, .int) := by decide +kernel
theorem jF_321_14 : j_F 321 14 = some (.iaload, 1, 0, 0, .null, .int) := by decide +kernel
theorem jF_321_15 : j_F 321 15 = some (.if_icmp .ge 64, 3, 79, 0, .null, .int) := by decide +kernel
theorem jF_321_18 : j_F 321 18 = some (.aload_n 0, 1, 0, 0, .null, .int) := by decide +kernel
theorem jF_321_19 : j_F 321 19 = some (.getfield 88, 3, 12, 35, .null, (.array .int)) := by decide +kernel
theorem jF_321_22 : j_F 321 22 = some (.sipush 348, 3, 0, 0, .null, .int) := by decide +kernel
theorem jF_321_25 : j_F 321 25 = some (.bipush 6, 2, 0, 0, .null, .int) := by decide +kernel
theorem jF_321_27 : j_F 321 27 = some (.iload_n 3, 1, 0, 0, .null, .int) := by decide +kernel
theorem jF_321_28 : j_F 321 28 = some (.imul, 1, 0, 0, .null, .int) := by decide +kernel
theorem jF_321_29 : j_F 321 29 = some (.iadd, 1, 0, 0, .null, .int) := by decide +kernel
theorem jF_321_30 : j_F 321 30 = some (.iconst 3, 1, 0, 0, .null, .int) := by decide +kernel
theorem jF_321_31 : j_F 321 31 = some (.iadd, 1, 0, 0, .null, .int) := by decide +kernel
theorem jF_321_32 : j_F 321 32 = some (.iaload, 1, 0, 0, .null, .int) := by decide +kernel
theorem jF_321_33 : j_F 321 33 = some (.iconst 1, 1, 0, 0, .null, .int) := by decide +kernel
theorem jF_321_34 : j_F 321 34 = some (.if_icmp .ne 21, 3, 55, 0, .null, .int) := by decide +kernel
theorem jF_321_37 : j_F 321 37 = some (.aload_n 0, 1, 0, 0, .null, .int) := by decide +kernel
theorem jF_321_38 : j_F 321 38 = some (.getfield 100, 3, 12, 41, .null, (.array .long)) := by decide +kernel
theorem jF_321_41 : j_F 321 41 = some (.bipush 24, 2, 0, 0, .null, .int) := by decide +kernel
theorem jF_321_43 : j_F 321 43 = some (.iload_n 3, 1, 0, 0, .null, .int) := by decide +kernel
theorem jF_321_44 : j_F 321 44 = some (.iadd, 1, 0, 0, .null, .int) := by decide +kernel
theorem jF_321_45 : j_F 321 45 = some (.laload, 1, 0, 0, .null, .int) := by decide +kernel
theorem jF_321_46 : j_F 321 46 = some (.lload_n 1, 1, 0, 0, .null, .int) := by decide +kernel
theorem jF_321_47 : j_F 321 47 = some (.ldc2_w 407, 3, 0, 0, (.long (-1)), .int) := by decide +kernel
theorem jF_321_50 : j_F 321 50 = some (.lxor, 1, 0, 0, .null, .int) := by decide +kernel
theorem jF_321_51 : j_F 321 51 = some (.land, 1, 0, 0, .null, .int) := by decide +kernel
theorem jF_321_52 : j_F 321 52 = some (.goto 14, 3, 66, 0, .null, .int) := by decide +kernel
theorem jF_321_55 : j_F 321 55 = some (.aload_n 0, 1, 0, 0, .null, .int) := by decide +kernel
theorem jF_321_56 : j_F 321 56 = some (.getfield 100, 3, 12, 41, .null, (.array .long)) := by decide +kernel
theorem jF_321_59 : j_F 321 59 = some (.bipush 24, 2, 0, 0, .null, .int) := by decide +kernel
theorem jF_321_61 : j_F 321 61 = some (.iload_n 3, 1, 0, 0, .null, .int) := by decide +kernel
theorem jF_321_62 : j_F 321 62 = some (.iadd, 1, 0, 0, .null, .int) := by decide +kernel
theorem jF_321_63 : j_F 321 63 = some (.laload, 1, 0, 0, .null, .int) := by decide +kernel
theorem jF_321_64 : j_F 321 64 = some (.lload_n 1, 1, 0, 0, .null, .int) := by decide +kernel
theorem jF_321_65 : j_F 321 65 = some (.land, 1, 0, 0, .null, .int) := by decide +kernel
theorem jF_321_66 : j_F 321 66 = some (.lconst 0, 1, 0, 0, .null, .int) := by decide +kernel
theorem jF_321_67 : j_F 321 67 = some (.lcmp, 1, 0, 0, .null, .int) := by decide +kernel
theorem jF_321_68 : j_F 321 68 = some (.ifCond .eq 5, 3, 73, 0, .null, .int) := by decide +kernel
theorem jF_321_71 : j_F 321 71 = some (.iload_n 3, 1, 0, 0, .null, .int) := by decide +kernel
theorem jF_321_72 : j_F 321 72 = some (.ireturn, 1, 0, 0, .null, .int) := by decide +kernel
theorem jF_321_73 : j_F 321 73 = some (.iinc 3 1, 3, 0, 0, .null, .int) := by decide +kernel
theorem jF_321_76 : j_F 321 76 = some (.goto (-68), 3, 8, 0, .null, .int) := by decide +kernel
theorem jF_321_79 : j_F 321 79 = some (.iconst (-1), 1, 0, 0, .null, .int) := by decide +kernel
theorem jF_321_80 : j_F 321 80 = some (.ireturn, 1, 0, 0, .null, .int) := by decide +kernel
theorem jF_323_0 : j_F 323 0 = some (.aload_n 0, 1, 0, 0, .null, .int) := by decide +kernel
theorem jF_323_1 : j_F 323 1 = some (.getfield 109, 3, 12, 47, .null, (.array .int)) := by decide +kernel
theorem jF_323_4 : j_F 323 4 = some (.iconst 0, 1, 0, 0, .null, .int) := by decide +kernel
theorem jF_323_5 : j_F 323 5 = some (.iaload, 1, 0, 0, .null, .int) := by decide +kernel
theorem jF_323_6 : j_F 323 6 = some (.ifCond .ne 5, 3, 11, 0, .null, .int) := by decide +kernel
theorem jF_323_9 : j_F 323 9 = some (.iconst (-1), 1, 0, 0, .null, .int) := by decide +kernel
theorem jF_323_10 : j_F 323 10 = some (.ireturn, 1, 0, 0, .null, .int) := by decide +kernel
theorem jF_323_11 : j_F 323 11 = some (.aload_n 0, 1, 0, 0, .null, .int) := by decide +kernel
theorem jF_323_12 : j_F 323 12 = some (.ldc2_w 565, 3, 0, 0, (.long (1103515245)), .int) := by decide +kernel
theorem jF_323_15 : j_F 323 15 = some (.aload_n 0, 1, 0, 0, .null, .int) := by decide +kernel
theorem jF_323_16 : j_F 323 16 = some (.getfield 136, 3, 12, 66, .null, .long) := by decide +kernel
theorem jF_323_19 : j_F 323 19 = some (.lmul, 1, 0, 0, .null, .int) := by decide +kernel
theorem jF_323_20 : j_F 323 20 = some (.ldc2_w 567, 3, 0, 0, (.long (12345)), .int) := by decide +kernel
theorem jF_323_23 : j_F 323 23 = some (.ladd, 1, 0, 0, .null, .int) := by decide +kernel
theorem jF_323_24 : j_F 323 24 = some (.ldc2_w 569, 3, 0, 0, (.long (2147483648)), .int) := by decide +kernel
theorem jF_323_27 : j_F 323 27 = some (.lrem, 1, 0, 0, .null, .int) := by decide +kernel
theorem jF_323_28 : j_F 323 28 = some (.putfield 136, 3, 12, 66, .null, .long) := by decide +kernel
theorem jF_323_31 : j_F 323 31 = some (.aload_n 0, 1, 0, 0, .null, .int) := by decide +kernel
theorem jF_323_32 : j_F 323 32 = some (.getfield 136, 3, 12, 66, .null, .long) := by decide +kernel
theorem jF_323_35 : j_F 323 35 = some (.ldc2_w 571, 3, 0, 0, (.long (64)), .int) := by decide +kernel
theorem jF_323_38 : j_F 323 38 = some (.ldiv, 1, 0, 0, .null, .int) := by decide +kernel
theorem jF_323_39 : j_F 323 39 = some (.aload_n 0, 1, 0, 0, .null, .int) := by decide +kernel
theorem jF_323_40 : j_F 323 40 = some (.getfield 109, 3, 12, 47, .null, (.array .int)) := by decide +kernel
theorem jF_323_43 : j_F 323 43 = some (.iconst 0, 1, 0, 0, .null, .int) := by decide +kernel
theorem jF_323_44 : j_F 323 44 = some (.iaload, 1, 0, 0, .null, .int) := by decide +kernel
theorem jF_323_45 : j_F 323 45 = some (.i2l, 1, 0, 0, .null, .int) := by decide +kernel
theorem jF_323_46 : j_F 323 46 = some (.lrem, 1, 0, 0, .null, .int) := by decide +kernel
theorem jF_323_47 : j_F 323 47 = some (.l2i, 1, 0, 0, .null, .int) := by decide +kernel
theorem jF_323_48 : j_F 323 48 = some (.istore_n 1, 1, 0, 0, .null, .int) := by decide +kernel
theorem jF_323_49 : j_F 323 49 = some (.aload_n 0, 1, 0, 0, .null, .int) := by decide +kernel
theorem jF_323_50 : j_F 323 50 = some (.iconst 0, 1, 0, 0, .null, .int) := by decide +kernel
theorem jF_323_51 : j_F 323 51 = some (.iconst 1, 1, 0, 0, .null, .int) := by decide +kernel
theorem jF_323_52 : j_F 323 52 = some (.iload_n 1, 1, 0, 0, .null, .int) := by decide +kernel
theorem jF_323_53 : j_F 323 53 = some (.iconst 0, 1, 0, 0, .null, .int) := by decide +kernel
theorem jF_323_54 : j_F 323 54 = some (.invokevirtual 465, 3, 288, 5, .null, .int) := by decide +kernel
theorem jF_323_57 : j_F 323 57 = some (.ifCond .eq 10, 3, 67, 0, .null, .int) := by decide +kernel
theorem jF_323_60 : j_F 323 60 = some (.aload_n 0, 1, 0, 0, .null, .int) := by decide +kernel
theorem jF_323_61 : j_F 323 61 = some (.invokevirtual 469, 3, 290, 1, .null, .int) := by decide +kernel
theorem jF_323_64 : j_F 323 64 = some (.ifCond .ne 5, 3, 69, 0, .null, .int) := by decide +kernel
theorem jF_323_67 : j_F 323 67 = some (.iconst (-1), 1, 0, 0, .null, .int) := by decide +kernel
theorem jF_323_68 : j_F 323 68 = some (.ireturn, 1, 0, 0, .null, .int) := by decide +kernel
theorem jF_323_69 : j_F 323 69 = some (.aload_n 0, 1, 0, 0, .null, .int) := by decide +kernel
theorem jF_323_70 : j_F 323 70 = some (.invokevirtual 395, 3, 262, 1, .null, .int) := by decide +kernel
theorem jF_323_73 : j_F 323 73 = some (.aload_n 0, 1, 0, 0, .null, .int) := by decide +kernel
theorem jF_323_74 : j_F 323 74 = some (.iconst 0, 1, 0, 0, .null, .int) := by decide +kernel
theorem jF_323_75 : j_F 323 75 = some (.invokevirtual 398, 3, 263, 2, .null, .int) := by decide +kernel
theorem jF_323_78 : j_F 323 78 = some (.iload_n 1, 1, 0, 0, .null, .int) := by decide +kernel
theorem jF_323_79 : j_F 323 79 = some (.ireturn, 1, 0, 0, .null, .int) := by decide +kernel
