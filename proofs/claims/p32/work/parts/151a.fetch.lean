/-! CODE. -/
theorem jF_243_0 : j_F 243 0 = some (.aload_n 0, 1, 0, 0, .null, .int) := by decide +kernel
theorem jF_243_1 : j_F 243 1 = some (.iconst 0, 1, 0, 0, .null, .int) := by decide +kernel
theorem jF_243_2 : j_F 243 2 = some (.invokevirtual 352, 3, 244, 2, .null, .int) := by decide +kernel
theorem jF_243_5 : j_F 243 5 = some (.aload_n 0, 1, 0, 0, .null, .int) := by decide +kernel
theorem jF_243_6 : j_F 243 6 = some (.iconst 1, 1, 0, 0, .null, .int) := by decide +kernel
theorem jF_243_7 : j_F 243 7 = some (.invokevirtual 352, 3, 244, 2, .null, .int) := by decide +kernel
theorem jF_243_10 : j_F 243 10 = some (.imul, 1, 0, 0, .null, .int) := by decide +kernel
theorem jF_243_11 : j_F 243 11 = some (.aload_n 0, 1, 0, 0, .null, .int) := by decide +kernel
theorem jF_243_12 : j_F 243 12 = some (.iconst 2, 1, 0, 0, .null, .int) := by decide +kernel
theorem jF_243_13 : j_F 243 13 = some (.invokevirtual 352, 3, 244, 2, .null, .int) := by decide +kernel
theorem jF_243_16 : j_F 243 16 = some (.imul, 1, 0, 0, .null, .int) := by decide +kernel
theorem jF_243_17 : j_F 243 17 = some (.ireturn, 1, 0, 0, .null, .int) := by decide +kernel
theorem jF_244_0 : j_F 244 0 = some (.iconst 0, 1, 0, 0, .null, .int) := by decide +kernel
theorem jF_244_1 : j_F 244 1 = some (.istore_n 2, 1, 0, 0, .null, .int) := by decide +kernel
theorem jF_244_2 : j_F 244 2 = some (.iconst 4, 1, 0, 0, .null, .int) := by decide +kernel
theorem jF_244_3 : j_F 244 3 = some (.iload_n 1, 1, 0, 0, .null, .int) := by decide +kernel
theorem jF_244_4 : j_F 244 4 = some (.imul, 1, 0, 0, .null, .int) := by decide +kernel
theorem jF_244_5 : j_F 244 5 = some (.istore_n 3, 1, 0, 0, .null, .int) := by decide +kernel
theorem jF_244_6 : j_F 244 6 = some (.iload_n 3, 1, 0, 0, .null, .int) := by decide +kernel
theorem jF_244_7 : j_F 244 7 = some (.iconst 4, 1, 0, 0, .null, .int) := by decide +kernel
theorem jF_244_8 : j_F 244 8 = some (.iload_n 1, 1, 0, 0, .null, .int) := by decide +kernel
theorem jF_244_9 : j_F 244 9 = some (.imul, 1, 0, 0, .null, .int) := by decide +kernel
theorem jF_244_10 : j_F 244 10 = some (.iconst 4, 1, 0, 0, .null, .int) := by decide +kernel
theorem jF_244_11 : j_F 244 11 = some (.iadd, 1, 0, 0, .null, .int) := by decide +kernel
theorem jF_244_12 : j_F 244 12 = some (.if_icmp .ge 26, 3, 38, 0, .null, .int) := by decide +kernel
theorem jF_244_15 : j_F 244 15 = some (.aload_n 0, 1, 0, 0, .null, .int) := by decide +kernel
theorem jF_244_16 : j_F 244 16 = some (.getfield 75, 3, 12, 29, .null, (.array .long)) := by decide +kernel
theorem jF_244_19 : j_F 244 19 = some (.bipush 18, 2, 0, 0, .null, .int) := by decide +kernel
theorem jF_244_21 : j_F 244 21 = some (.iload_n 3, 1, 0, 0, .null, .int) := by decide +kernel
theorem jF_244_22 : j_F 244 22 = some (.iadd, 1, 0, 0, .null, .int) := by decide +kernel
theorem jF_244_23 : j_F 244 23 = some (.laload, 1, 0, 0, .null, .int) := by decide +kernel
theorem jF_244_24 : j_F 244 24 = some (.lconst 0, 1, 0, 0, .null, .int) := by decide +kernel
theorem jF_244_25 : j_F 244 25 = some (.lcmp, 1, 0, 0, .null, .int) := by decide +kernel
theorem jF_244_26 : j_F 244 26 = some (.ifCond .eq 6, 3, 32, 0, .null, .int) := by decide +kernel
theorem jF_244_29 : j_F 244 29 = some (.iinc 2 1, 3, 0, 0, .null, .int) := by decide +kernel
theorem jF_244_32 : j_F 244 32 = some (.iinc 3 1, 3, 0, 0, .null, .int) := by decide +kernel
theorem jF_244_35 : j_F 244 35 = some (.goto (-29), 3, 6, 0, .null, .int) := by decide +kernel
theorem jF_244_38 : j_F 244 38 = some (.iload_n 2, 1, 0, 0, .null, .int) := by decide +kernel
theorem jF_244_39 : j_F 244 39 = some (.ireturn, 1, 0, 0, .null, .int) := by decide +kernel
theorem jF_245_0 : j_F 245 0 = some (.iload_n 2, 1, 0, 0, .null, .int) := by decide +kernel
theorem jF_245_1 : j_F 245 1 = some (.ifCond .ne 13, 3, 14, 0, .null, .int) := by decide +kernel
theorem jF_245_4 : j_F 245 4 = some (.iload_n 1, 1, 0, 0, .null, .int) := by decide +kernel
theorem jF_245_5 : j_F 245 5 = some (.aload_n 0, 1, 0, 0, .null, .int) := by decide +kernel
theorem jF_245_6 : j_F 245 6 = some (.iconst 0, 1, 0, 0, .null, .int) := by decide +kernel
theorem jF_245_7 : j_F 245 7 = some (.invokevirtual 352, 3, 244, 2, .null, .int) := by decide +kernel
theorem jF_245_10 : j_F 245 10 = some (.irem, 1, 0, 0, .null, .int) := by decide +kernel
theorem jF_245_11 : j_F 245 11 = some (.goto 37, 3, 48, 0, .null, .int) := by decide +kernel
theorem jF_245_14 : j_F 245 14 = some (.iload_n 2, 1, 0, 0, .null, .int) := by decide +kernel
theorem jF_245_15 : j_F 245 15 = some (.iconst 1, 1, 0, 0, .null, .int) := by decide +kernel
theorem jF_245_16 : j_F 245 16 = some (.if_icmp .ne 19, 3, 35, 0, .null, .int) := by decide +kernel
theorem jF_245_19 : j_F 245 19 = some (.iload_n 1, 1, 0, 0, .null, .int) := by decide +kernel
theorem jF_245_20 : j_F 245 20 = some (.aload_n 0, 1, 0, 0, .null, .int) := by decide +kernel
theorem jF_245_21 : j_F 245 21 = some (.iconst 0, 1, 0, 0, .null, .int) := by decide +kernel
theorem jF_245_22 : j_F 245 22 = some (.invokevirtual 352, 3, 244, 2, .null, .int) := by decide +kernel
theorem jF_245_25 : j_F 245 25 = some (.idiv, 1, 0, 0, .null, .int) := by decide +kernel
theorem jF_245_26 : j_F 245 26 = some (.aload_n 0, 1, 0, 0, .null, .int) := by decide +kernel
theorem jF_245_27 : j_F 245 27 = some (.iconst 1, 1, 0, 0, .null, .int) := by decide +kernel
theorem jF_245_28 : j_F 245 28 = some (.invokevirtual 352, 3, 244, 2, .null, .int) := by decide +kernel
theorem jF_245_31 : j_F 245 31 = some (.irem, 1, 0, 0, .null, .int) := by decide +kernel
theorem jF_245_32 : j_F 245 32 = some (.goto 16, 3, 48, 0, .null, .int) := by decide +kernel
theorem jF_245_35 : j_F 245 35 = some (.iload_n 1, 1, 0, 0, .null, .int) := by decide +kernel
theorem jF_245_36 : j_F 245 36 = some (.aload_n 0, 1, 0, 0, .null, .int) := by decide +kernel
theorem jF_245_37 : j_F 245 37 = some (.iconst 0, 1, 0, 0, .null, .int) := by decide +kernel
theorem jF_245_38 : j_F 245 38 = some (.invokevirtual 352, 3, 244, 2, .null, .int) := by decide +kernel
theorem jF_245_41 : j_F 245 41 = some (.aload_n 0, 1, 0, 0, .null, .int) := by decide +kernel
theorem jF_245_42 : j_F 245 42 = some (.iconst 1, 1, 0, 0, .null, .int) := by decide +kernel
theorem jF_245_43 : j_F 245 43 = some (.invokevirtual 352, 3, 244, 2, .null, .int) := by decide +kernel
theorem jF_245_46 : j_F 245 46 = some (.imul, 1, 0, 0, .null, .int) := by decide +kernel
theorem jF_245_47 : j_F 245 47 = some (.idiv, 1, 0, 0, .null, .int) := by decide +kernel
theorem jF_245_48 : j_F 245 48 = some (.ireturn, 1, 0, 0, .null, .int) := by decide +kernel
theorem jF_275_0 : j_F 275 0 = some (.aload_n 0, 1, 0, 0, .null, .int) := by decide +kernel
theorem jF_275_1 : j_F 275 1 = some (.iload_n 2, 1, 0, 0, .null, .int) := by decide +kernel
theorem jF_275_2 : j_F 275 2 = some (.invokevirtual 445, 3, 276, 2, .null, .int) := by decide +kernel
theorem jF_275_5 : j_F 275 5 = some (.ifCond .eq 19, 3, 24, 0, .null, .int) := by decide +kernel
theorem jF_275_8 : j_F 275 8 = some (.aload_n 0, 1, 0, 0, .null, .int) := by decide +kernel
theorem jF_275_9 : j_F 275 9 = some (.iload_n 1, 1, 0, 0, .null, .int) := by decide +kernel
theorem jF_275_10 : j_F 275 10 = some (.invokestatic 432, 3, 269, 1, .null, .int) := by decide +kernel
theorem jF_275_13 : j_F 275 13 = some (.invokevirtual 448, 3, 277, 2, .null, .int) := by decide +kernel
theorem jF_275_16 : j_F 275 16 = some (.iload_n 2, 1, 0, 0, .null, .int) := by decide +kernel
theorem jF_275_17 : j_F 275 17 = some (.lshr, 1, 0, 0, .null, .int) := by decide +kernel
theorem jF_275_18 : j_F 275 18 = some (.lconst 1, 1, 0, 0, .null, .int) := by decide +kernel
theorem jF_275_19 : j_F 275 19 = some (.land, 1, 0, 0, .null, .int) := by decide +kernel
theorem jF_275_20 : j_F 275 20 = some (.l2i, 1, 0, 0, .null, .int) := by decide +kernel
theorem jF_275_21 : j_F 275 21 = some (.goto 4, 3, 25, 0, .null, .int) := by decide +kernel
theorem jF_275_24 : j_F 275 24 = some (.iconst (-1), 1, 0, 0, .null, .int) := by decide +kernel
theorem jF_275_25 : j_F 275 25 = some (.ireturn, 1, 0, 0, .null, .int) := by decide +kernel
theorem jF_276_0 : j_F 276 0 = some (.iload_n 1, 1, 0, 0, .null, .int) := by decide +kernel
theorem jF_276_1 : j_F 276 1 = some (.i2l, 1, 0, 0, .null, .int) := by decide +kernel
theorem jF_276_2 : j_F 276 2 = some (.lconst 0, 1, 0, 0, .null, .int) := by decide +kernel
theorem jF_276_3 : j_F 276 3 = some (.aload_n 0, 1, 0, 0, .null, .int) := by decide +kernel
theorem jF_276_4 : j_F 276 4 = some (.invokevirtual 358, 3, 243, 1, .null, .int) := by decide +kernel
theorem jF_276_7 : j_F 276 7 = some (.iconst 1, 1, 0, 0, .null, .int) := by decide +kernel
theorem jF_276_8 : j_F 276 8 = some (.isub, 1, 0, 0, .null, .int) := by decide +kernel
theorem jF_276_9 : j_F 276 9 = some (.i2l, 1, 0, 0, .null, .int) := by decide +kernel
theorem jF_276_10 : j_F 276 10 = some (.invokestatic 252, 3, 232, 3, .null, .int) := by decide +kernel
theorem jF_276_13 : j_F 276 13 = some (.ireturn, 1, 0, 0, .null, .boolean) := by decide +kernel
theorem jF_278_0 : j_F 278 0 = some (.aload_n 0, 1, 0, 0, .null, .int) := by decide +kernel
theorem jF_278_1 : j_F 278 1 = some (.iload_n 1, 1, 0, 0, .null, .int) := by decide +kernel
theorem jF_278_2 : j_F 278 2 = some (.invokevirtual 445, 3, 276, 2, .null, .int) := by decide +kernel
theorem jF_278_5 : j_F 278 5 = some (.ifCond .ne 5, 3, 10, 0, .null, .int) := by decide +kernel
theorem jF_278_8 : j_F 278 8 = some (.iconst (-1), 1, 0, 0, .null, .int) := by decide +kernel
theorem jF_278_9 : j_F 278 9 = some (.ireturn, 1, 0, 0, .null, .int) := by decide +kernel
theorem jF_278_10 : j_F 278 10 = some (.aload_n 0, 1, 0, 0, .null, .int) := by decide +kernel
theorem jF_278_11 : j_F 278 11 = some (.iconst 0, 1, 0, 0, .null, .int) := by decide +kernel
theorem jF_278_12 : j_F 278 12 = some (.invokevirtual 416, 3, 271, 2, .null, .int) := by decide +kernel
theorem jF_278_15 : j_F 278 15 = some (.iconst 0, 1, 0, 0, .null, .int) := by decide +kernel
theorem jF_278_16 : j_F 278 16 = some (.istore_n 3, 1, 0, 0, .null, .int) := by decide +kernel
theorem jF_278_17 : j_F 278 17 = some (.iconst 0, 1, 0, 0, .null, .int) := by decide +kernel
theorem jF_278_18 : j_F 278 18 = some (.istore 4, 2, 0, 0, .null, .int) := by decide +kernel
theorem jF_278_20 : j_F 278 20 = some (.iconst 0, 1, 0, 0, .null, .int) := by decide +kernel
theorem jF_278_21 : j_F 278 21 = some (.istore 5, 2, 0, 0, .null, .int) := by decide +kernel
theorem jF_278_23 : j_F 278 23 = some (.iload 5, 2, 0, 0, .null, .int) := by decide +kernel
theorem jF_278_25 : j_F 278 25 = some (.aload_n 0, 1, 0, 0, .null, .int) := by decide +kernel
theorem jF_278_26 : j_F 278 26 = some (.getfield 401, 3, 12, 49, .null, .int) := by decide +kernel
theorem jF_278_29 : j_F 278 29 = some (.if_icmp .ge 43, 3, 72, 0, .null, .int) := by decide +kernel
theorem jF_278_32 : j_F 278 32 = some (.aload_n 0, 1, 0, 0, .null, .int) := by decide +kernel
theorem jF_278_33 : j_F 278 33 = some (.iload 5, 2, 0, 0, .null, .int) := by decide +kernel
theorem jF_278_35 : j_F 278 35 = some (.invokevirtual 409, 3, 260, 2, .null, .int) := by decide +kernel
theorem jF_278_38 : j_F 278 38 = some (.iload_n 1, 1, 0, 0, .null, .int) := by decide +kernel
theorem jF_278_39 : j_F 278 39 = some (.lshr, 1, 0, 0, .null, .int) := by decide +kernel
theorem jF_278_40 : j_F 278 40 = some (.lconst 1, 1, 0, 0, .null, .int) := by decide +kernel
theorem jF_278_41 : j_F 278 41 = some (.land, 1, 0, 0, .null, .int) := by decide +kernel
theorem jF_278_42 : j_F 278 42 = some (.lconst 1, 1, 0, 0, .null, .int) := by decide +kernel
theorem jF_278_43 : j_F 278 43 = some (.lcmp, 1, 0, 0, .null, .int) := by decide +kernel
theorem jF_278_44 : j_F 278 44 = some (.ifCond .ne 14, 3, 58, 0, .null, .int) := by decide +kernel
theorem jF_278_47 : j_F 278 47 = some (.iload_n 3, 1, 0, 0, .null, .int) := by decide +kernel
theorem jF_278_48 : j_F 278 48 = some (.iload_n 2, 1, 0, 0, .null, .int) := by decide +kernel
theorem jF_278_49 : j_F 278 49 = some (.if_icmp .ne 6, 3, 55, 0, .null, .int) := by decide +kernel
theorem jF_278_52 : j_F 278 52 = some (.iload 4, 2, 0, 0, .null, .int) := by decide +kernel
theorem jF_278_54 : j_F 278 54 = some (.ireturn, 1, 0, 0, .null, .int) := by decide +kernel
theorem jF_278_55 : j_F 278 55 = some (.iinc 3 1, 3, 0, 0, .null, .int) := by decide +kernel
theorem jF_278_58 : j_F 278 58 = some (.iinc 4 1, 3, 0, 0, .null, .int) := by decide +kernel
theorem jF_278_61 : j_F 278 61 = some (.aload_n 0, 1, 0, 0, .null, .int) := by decide +kernel
theorem jF_278_62 : j_F 278 62 = some (.iload 5, 2, 0, 0, .null, .int) := by decide +kernel
theorem jF_278_64 : j_F 278 64 = some (.invokevirtual 413, 3, 261, 2, .null, .int) := by decide +kernel
theorem jF_278_67 : j_F 278 67 = some (.istore 5, 2, 0, 0, .null, .int) := by decide +kernel
theorem jF_278_69 : j_F 278 69 = some (.goto (-46), 3, 23, 0, .null, .int) := by decide +kernel
theorem jF_278_72 : j_F 278 72 = some (.iconst (-1), 1, 0, 0, .null, .int) := by decide +kernel
theorem jF_278_73 : j_F 278 73 = some (.ireturn, 1, 0, 0, .null, .int) := by decide +kernel
theorem jF_279_0 : j_F 279 0 = some (.aload_n 0, 1, 0, 0, .null, .int) := by decide +kernel
theorem jF_279_1 : j_F 279 1 = some (.iload_n 1, 1, 0, 0, .null, .int) := by decide +kernel
theorem jF_279_2 : j_F 279 2 = some (.invokevirtual 445, 3, 276, 2, .null, .int) := by decide +kernel
theorem jF_279_5 : j_F 279 5 = some (.ifCond .eq 17, 3, 22, 0, .null, .int) := by decide +kernel
theorem jF_279_8 : j_F 279 8 = some (.aload_n 0, 1, 0, 0, .null, .int) := by decide +kernel
theorem jF_279_9 : j_F 279 9 = some (.iconst 0, 1, 0, 0, .null, .int) := by decide +kernel
theorem jF_279_10 : j_F 279 10 = some (.invokevirtual 448, 3, 277, 2, .null, .int) := by decide +kernel
theorem jF_279_13 : j_F 279 13 = some (.iload_n 1, 1, 0, 0, .null, .int) := by decide +kernel
theorem jF_279_14 : j_F 279 14 = some (.lshr, 1, 0, 0, .null, .int) := by decide +kernel
theorem jF_279_15 : j_F 279 15 = some (.lconst 1, 1, 0, 0, .null, .int) := by decide +kernel
theorem jF_279_16 : j_F 279 16 = some (.land, 1, 0, 0, .null, .int) := by decide +kernel
theorem jF_279_17 : j_F 279 17 = some (.lconst 0, 1, 0, 0, .null, .int) := by decide +kernel
theorem jF_279_18 : j_F 279 18 = some (.lcmp, 1, 0, 0, .null, .int) := by decide +kernel
theorem jF_279_19 : j_F 279 19 = some (.ifCond .ne 5, 3, 24, 0, .null, .int) := by decide +kernel
theorem jF_279_22 : j_F 279 22 = some (.iconst (-1), 1, 0, 0, .null, .int) := by decide +kernel
theorem jF_279_23 : j_F 279 23 = some (.ireturn, 1, 0, 0, .null, .int) := by decide +kernel
theorem jF_279_24 : j_F 279 24 = some (.iconst 0, 1, 0, 0, .null, .int) := by decide +kernel
theorem jF_279_25 : j_F 279 25 = some (.istore_n 3, 1, 0, 0, .null, .int) := by decide +kernel
theorem jF_279_26 : j_F 279 26 = some (.iconst 0, 1, 0, 0, .null, .int) := by decide +kernel
theorem jF_279_27 : j_F 279 27 = some (.istore 4, 2, 0, 0, .null, .int) := by decide +kernel
theorem jF_279_29 : j_F 279 29 = some (.iload 4, 2, 0, 0, .null, .int) := by decide +kernel
theorem jF_279_31 : j_F 279 31 = some (.aload_n 0, 1, 0, 0, .null, .int) := by decide +kernel
theorem jF_279_32 : j_F 279 32 = some (.getfield 109, 3, 12, 47, .null, (.array .int)) := by decide +kernel
theorem jF_279_35 : j_F 279 35 = some (.iconst 0, 1, 0, 0, .null, .int) := by decide +kernel
theorem jF_279_36 : j_F 279 36 = some (.iaload, 1, 0, 0, .null, .int) := by decide +kernel
theorem jF_279_37 : j_F 279 37 = some (.if_icmp .ge 33, 3, 70, 0, .null, .int) := by decide +kernel
theorem jF_279_40 : j_F 279 40 = some (.aload_n 0, 1, 0, 0, .null, .int) := by decide +kernel
theorem jF_279_41 : j_F 279 41 = some (.iload 4, 2, 0, 0, .null, .int) := by decide +kernel
theorem jF_279_43 : j_F 279 43 = some (.iload_n 1, 1, 0, 0, .null, .int) := by decide +kernel
theorem jF_279_44 : j_F 279 44 = some (.invokevirtual 454, 3, 280, 3, .null, .int) := by decide +kernel
theorem jF_279_47 : j_F 279 47 = some (.ifCond .ne 6, 3, 53, 0, .null, .int) := by decide +kernel
theorem jF_279_50 : j_F 279 50 = some (.goto 14, 3, 64, 0, .null, .int) := by decide +kernel
theorem jF_279_53 : j_F 279 53 = some (.iload_n 3, 1, 0, 0, .null, .int) := by decide +kernel
theorem jF_279_54 : j_F 279 54 = some (.iload_n 2, 1, 0, 0, .null, .int) := by decide +kernel
theorem jF_279_55 : j_F 279 55 = some (.if_icmp .ne 6, 3, 61, 0, .null, .int) := by decide +kernel
theorem jF_279_58 : j_F 279 58 = some (.iload 4, 2, 0, 0, .null, .int) := by decide +kernel
theorem jF_279_60 : j_F 279 60 = some (.ireturn, 1, 0, 0, .null, .int) := by decide +kernel
theorem jF_279_61 : j_F 279 61 = some (.iinc 3 1, 3, 0, 0, .null, .int) := by decide +kernel
theorem jF_279_64 : j_F 279 64 = some (.iinc 4 1, 3, 0, 0, .null, .int) := by decide +kernel
theorem jF_279_67 : j_F 279 67 = some (.goto (-38), 3, 29, 0, .null, .int) := by decide +kernel
theorem jF_279_70 : j_F 279 70 = some (.iconst (-1), 1, 0, 0, .null, .int) := by decide +kernel
theorem jF_279_71 : j_F 279 71 = some (.ireturn, 1, 0, 0, .null, .int) := by decide +kernel
theorem jF_280_0 : j_F 280 0 = some (.aload_n 0, 1, 0, 0, .null, .int) := by decide +kernel
theorem jF_280_1 : j_F 280 1 = some (.iconst 0, 1, 0, 0, .null, .int) := by decide +kernel
theorem jF_280_2 : j_F 280 2 = some (.invokevirtual 416, 3, 271, 2, .null, .int) := by decide +kernel
theorem jF_280_5 : j_F 280 5 = some (.aload_n 0, 1, 0, 0, .null, .int) := by decide +kernel
theorem jF_280_6 : j_F 280 6 = some (.iload_n 1, 1, 0, 0, .null, .int) := by decide +kernel
theorem jF_280_7 : j_F 280 7 = some (.invokevirtual 451, 3, 281, 2, .null, .int) := by decide +kernel
theorem jF_280_10 : j_F 280 10 = some (.aload_n 0, 1, 0, 0, .null, .int) := by decide +kernel
theorem jF_280_11 : j_F 280 11 = some (.invokevirtual 422, 3, 282, 1, .null, .int) := by decide +kernel
theorem jF_280_14 : j_F 280 14 = some (.ifCond .eq 20, 3, 34, 0, .null, .int) := by decide +kernel
theorem jF_280_17 : j_F 280 17 = some (.aload_n 0, 1, 0, 0, .null, .int) := by decide +kernel
theorem jF_280_18 : j_F 280 18 = some (.invokevirtual 419, 3, 259, 1, .null, .int) := by decide +kernel
theorem jF_280_21 : j_F 280 21 = some (.iload_n 2, 1, 0, 0, .null, .int) := by decide +kernel
theorem jF_280_22 : j_F 280 22 = some (.lshr, 1, 0, 0, .null, .int) := by decide +kernel
theorem jF_280_23 : j_F 280 23 = some (.lconst 1, 1, 0, 0, .null, .int) := by decide +kernel
theorem jF_280_24 : j_F 280 24 = some (.land, 1, 0, 0, .null, .int) := by decide +kernel
theorem jF_280_25 : j_F 280 25 = some (.lconst 0, 1, 0, 0, .null, .int) := by decide +kernel
theorem jF_280_26 : j_F 280 26 = some (.lcmp, 1, 0, 0, .null, .int) := by decide +kernel
theorem jF_280_27 : j_F 280 27 = some (.ifCond .ne 7, 3, 34, 0, .null, .int) := by decide +kernel
theorem jF_280_30 : j_F 280 30 = some (.iconst 1, 1, 0, 0, .null, .int) := by decide +kernel
theorem jF_280_31 : j_F 280 31 = some (.goto 4, 3, 35, 0, .null, .int) := by decide +kernel
theorem jF_280_34 : j_F 280 34 = some (.iconst 0, 1, 0, 0, .null, .int) := by decide +kernel
theorem jF_280_35 : j_F 280 35 = some (.ireturn, 1, 0, 0, .null, .boolean) := by decide +kernel
