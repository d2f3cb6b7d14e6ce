/-! CODE. -/
theorem jF_285_0 : j_F 285 0 = some (.aload_n 0, 1, 0, 0, .null, .int) := by decide +kernel
theorem jF_285_1 : j_F 285 1 = some (.getfield 343, 3, 12, 52, .null, .int) := by decide +kernel
theorem jF_285_4 : j_F 285 4 = some (.ifCond .ne 15, 3, 19, 0, .null, .int) := by decide +kernel
theorem jF_285_7 : j_F 285 7 = some (.aload_n 0, 1, 0, 0, .null, .int) := by decide +kernel
theorem jF_285_8 : j_F 285 8 = some (.getfield 17, 3, 12, 9, .null, (.array .int)) := by decide +kernel
theorem jF_285_11 : j_F 285 11 = some (.iconst 3, 1, 0, 0, .null, .int) := by decide +kernel
theorem jF_285_12 : j_F 285 12 = some (.dup2, 1, 0, 0, .null, .int) := by decide +kernel
theorem jF_285_13 : j_F 285 13 = some (.iaload, 1, 0, 0, .null, .int) := by decide +kernel
theorem jF_285_14 : j_F 285 14 = some (.iconst 1, 1, 0, 0, .null, .int) := by decide +kernel
theorem jF_285_15 : j_F 285 15 = some (.iadd, 1, 0, 0, .null, .int) := by decide +kernel
theorem jF_285_16 : j_F 285 16 = some (.iastore, 1, 0, 0, .null, .int) := by decide +kernel
theorem jF_285_17 : j_F 285 17 = some (.iconst 0, 1, 0, 0, .null, .int) := by decide +kernel
theorem jF_285_18 : j_F 285 18 = some (.ireturn, 1, 0, 0, .null, .boolean) := by decide +kernel
theorem jF_285_19 : j_F 285 19 = some (.aload_n 0, 1, 0, 0, .null, .int) := by decide +kernel
theorem jF_285_20 : j_F 285 20 = some (.getfield 109, 3, 12, 47, .null, (.array .int)) := by decide +kernel
theorem jF_285_23 : j_F 285 23 = some (.iconst 0, 1, 0, 0, .null, .int) := by decide +kernel
theorem jF_285_24 : j_F 285 24 = some (.aload_n 0, 1, 0, 0, .null, .int) := by decide +kernel
theorem jF_285_25 : j_F 285 25 = some (.getfield 118, 3, 12, 51, .null, (.array .int)) := by decide +kernel
theorem jF_285_28 : j_F 285 28 = some (.aload_n 0, 1, 0, 0, .null, .int) := by decide +kernel
theorem jF_285_29 : j_F 285 29 = some (.getfield 457, 3, 12, 53, .null, .int) := by decide +kernel
theorem jF_285_32 : j_F 285 32 = some (.iaload, 1, 0, 0, .null, .int) := by decide +kernel
theorem jF_285_33 : j_F 285 33 = some (.iastore, 1, 0, 0, .null, .int) := by decide +kernel
theorem jF_285_34 : j_F 285 34 = some (.iconst 0, 1, 0, 0, .null, .int) := by decide +kernel
theorem jF_285_35 : j_F 285 35 = some (.istore_n 1, 1, 0, 0, .null, .int) := by decide +kernel
theorem jF_285_36 : j_F 285 36 = some (.iload_n 1, 1, 0, 0, .null, .int) := by decide +kernel
theorem jF_285_37 : j_F 285 37 = some (.aload_n 0, 1, 0, 0, .null, .int) := by decide +kernel
theorem jF_285_38 : j_F 285 38 = some (.getfield 109, 3, 12, 47, .null, (.array .int)) := by decide +kernel
theorem jF_285_41 : j_F 285 41 = some (.iconst 0, 1, 0, 0, .null, .int) := by decide +kernel
theorem jF_285_42 : j_F 285 42 = some (.iaload, 1, 0, 0, .null, .int) := by decide +kernel
theorem jF_285_43 : j_F 285 43 = some (.if_icmp .ge 29, 3, 72, 0, .null, .int) := by decide +kernel
theorem jF_285_46 : j_F 285 46 = some (.aload_n 0, 1, 0, 0, .null, .int) := by decide +kernel
theorem jF_285_47 : j_F 285 47 = some (.getfield 106, 3, 12, 46, .null, (.array .int)) := by decide +kernel
theorem jF_285_50 : j_F 285 50 = some (.iload_n 1, 1, 0, 0, .null, .int) := by decide +kernel
theorem jF_285_51 : j_F 285 51 = some (.aload_n 0, 1, 0, 0, .null, .int) := by decide +kernel
theorem jF_285_52 : j_F 285 52 = some (.getfield 115, 3, 12, 50, .null, (.array .int)) := by decide +kernel
theorem jF_285_55 : j_F 285 55 = some (.bipush 64, 2, 0, 0, .null, .int) := by decide +kernel
theorem jF_285_57 : j_F 285 57 = some (.aload_n 0, 1, 0, 0, .null, .int) := by decide +kernel
theorem jF_285_58 : j_F 285 58 = some (.getfield 457, 3, 12, 53, .null, .int) := by decide +kernel
theorem jF_285_61 : j_F 285 61 = some (.imul, 1, 0, 0, .null, .int) := by decide +kernel
theorem jF_285_62 : j_F 285 62 = some (.iload_n 1, 1, 0, 0, .null, .int) := by decide +kernel
theorem jF_285_63 : j_F 285 63 = some (.iadd, 1, 0, 0, .null, .int) := by decide +kernel
theorem jF_285_64 : j_F 285 64 = some (.iaload, 1, 0, 0, .null, .int) := by decide +kernel
theorem jF_285_65 : j_F 285 65 = some (.iastore, 1, 0, 0, .null, .int) := by decide +kernel
theorem jF_285_66 : j_F 285 66 = some (.iinc 1 1, 3, 0, 0, .null, .int) := by decide +kernel
theorem jF_285_69 : j_F 285 69 = some (.goto (-33), 3, 36, 0, .null, .int) := by decide +kernel
theorem jF_285_72 : j_F 285 72 = some (.aload_n 0, 1, 0, 0, .null, .int) := by decide +kernel
theorem jF_285_73 : j_F 285 73 = some (.aload_n 0, 1, 0, 0, .null, .int) := by decide +kernel
theorem jF_285_74 : j_F 285 74 = some (.getfield 457, 3, 12, 53, .null, .int) := by decide +kernel
theorem jF_285_77 : j_F 285 77 = some (.bipush 20, 2, 0, 0, .null, .int) := by decide +kernel
theorem jF_285_79 : j_F 285 79 = some (.iadd, 1, 0, 0, .null, .int) := by decide +kernel
theorem jF_285_80 : j_F 285 80 = some (.iconst 1, 1, 0, 0, .null, .int) := by decide +kernel
theorem jF_285_81 : j_F 285 81 = some (.isub, 1, 0, 0, .null, .int) := by decide +kernel
theorem jF_285_82 : j_F 285 82 = some (.bipush 20, 2, 0, 0, .null, .int) := by decide +kernel
theorem jF_285_84 : j_F 285 84 = some (.irem, 1, 0, 0, .null, .int) := by decide +kernel
theorem jF_285_85 : j_F 285 85 = some (.putfield 457, 3, 12, 53, .null, .int) := by decide +kernel
theorem jF_285_88 : j_F 285 88 = some (.aload_n 0, 1, 0, 0, .null, .int) := by decide +kernel
theorem jF_285_89 : j_F 285 89 = some (.dup, 1, 0, 0, .null, .int) := by decide +kernel
theorem jF_285_90 : j_F 285 90 = some (.getfield 343, 3, 12, 52, .null, .int) := by decide +kernel
theorem jF_285_93 : j_F 285 93 = some (.iconst 1, 1, 0, 0, .null, .int) := by decide +kernel
theorem jF_285_94 : j_F 285 94 = some (.isub, 1, 0, 0, .null, .int) := by decide +kernel
theorem jF_285_95 : j_F 285 95 = some (.putfield 343, 3, 12, 52, .null, .int) := by decide +kernel
theorem jF_285_98 : j_F 285 98 = some (.iconst 1, 1, 0, 0, .null, .int) := by decide +kernel
theorem jF_285_99 : j_F 285 99 = some (.ireturn, 1, 0, 0, .null, .boolean) := by decide +kernel
theorem jF_286_0 : j_F 286 0 = some (.aload_n 0, 1, 0, 0, .null, .int) := by decide +kernel
theorem jF_286_1 : j_F 286 1 = some (.iconst 0, 1, 0, 0, .null, .int) := by decide +kernel
theorem jF_286_2 : j_F 286 2 = some (.iload_n 1, 1, 0, 0, .null, .int) := by decide +kernel
theorem jF_286_3 : j_F 286 3 = some (.iload_n 2, 1, 0, 0, .null, .int) := by decide +kernel
theorem jF_286_4 : j_F 286 4 = some (.invokevirtual 472, 3, 287, 4, .null, .int) := by decide +kernel
theorem jF_286_7 : j_F 286 7 = some (.ireturn, 1, 0, 0, .null, .int) := by decide +kernel
theorem jF_287_0 : j_F 287 0 = some (.aload_n 0, 1, 0, 0, .null, .int) := by decide +kernel
theorem jF_287_1 : j_F 287 1 = some (.iconst 0, 1, 0, 0, .null, .int) := by decide +kernel
theorem jF_287_2 : j_F 287 2 = some (.iload_n 1, 1, 0, 0, .null, .int) := by decide +kernel
theorem jF_287_3 : j_F 287 3 = some (.iload_n 2, 1, 0, 0, .null, .int) := by decide +kernel
theorem jF_287_4 : j_F 287 4 = some (.iload_n 3, 1, 0, 0, .null, .int) := by decide +kernel
theorem jF_287_5 : j_F 287 5 = some (.invokevirtual 465, 3, 288, 5, .null, .int) := by decide +kernel
theorem jF_287_8 : j_F 287 8 = some (.ifCond .eq 10, 3, 18, 0, .null, .int) := by decide +kernel
theorem jF_287_11 : j_F 287 11 = some (.aload_n 0, 1, 0, 0, .null, .int) := by decide +kernel
theorem jF_287_12 : j_F 287 12 = some (.invokevirtual 469, 3, 290, 1, .null, .int) := by decide +kernel
theorem jF_287_15 : j_F 287 15 = some (.ifCond .ne 15, 3, 30, 0, .null, .int) := by decide +kernel
theorem jF_287_18 : j_F 287 18 = some (.aload_n 0, 1, 0, 0, .null, .int) := by decide +kernel
theorem jF_287_19 : j_F 287 19 = some (.getfield 17, 3, 12, 9, .null, (.array .int)) := by decide +kernel
theorem jF_287_22 : j_F 287 22 = some (.iconst 2, 1, 0, 0, .null, .int) := by decide +kernel
theorem jF_287_23 : j_F 287 23 = some (.dup2, 1, 0, 0, .null, .int) := by decide +kernel
theorem jF_287_24 : j_F 287 24 = some (.iaload, 1, 0, 0, .null, .int) := by decide +kernel
theorem jF_287_25 : j_F 287 25 = some (.iconst 1, 1, 0, 0, .null, .int) := by decide +kernel
theorem jF_287_26 : j_F 287 26 = some (.iadd, 1, 0, 0, .null, .int) := by decide +kernel
theorem jF_287_27 : j_F 287 27 = some (.iastore, 1, 0, 0, .null, .int) := by decide +kernel
theorem jF_287_28 : j_F 287 28 = some (.iconst (-1), 1, 0, 0, .null, .int) := by decide +kernel
theorem jF_287_29 : j_F 287 29 = some (.ireturn, 1, 0, 0, .null, .int) := by decide +kernel
theorem jF_287_30 : j_F 287 30 = some (.aload_n 0, 1, 0, 0, .null, .int) := by decide +kernel
theorem jF_287_31 : j_F 287 31 = some (.invokevirtual 395, 3, 262, 1, .null, .int) := by decide +kernel
theorem jF_287_34 : j_F 287 34 = some (.aload_n 0, 1, 0, 0, .null, .int) := by decide +kernel
theorem jF_287_35 : j_F 287 35 = some (.iconst 0, 1, 0, 0, .null, .int) := by decide +kernel
theorem jF_287_36 : j_F 287 36 = some (.invokevirtual 398, 3, 263, 2, .null, .int) := by decide +kernel
theorem jF_287_39 : j_F 287 39 = some (.aload_n 0, 1, 0, 0, .null, .int) := by decide +kernel
theorem jF_287_40 : j_F 287 40 = some (.invokevirtual 436, 3, 272, 1, .null, .int) := by decide +kernel
theorem jF_287_43 : j_F 287 43 = some (.ireturn, 1, 0, 0, .null, .int) := by decide +kernel
theorem jF_291_0 : j_F 291 0 = some (.aload_n 0, 1, 0, 0, .null, .int) := by decide +kernel
theorem jF_291_1 : j_F 291 1 = some (.iconst 1, 1, 0, 0, .null, .int) := by decide +kernel
theorem jF_291_2 : j_F 291 2 = some (.iload_n 1, 1, 0, 0, .null, .int) := by decide +kernel
theorem jF_291_3 : j_F 291 3 = some (.iconst 0, 1, 0, 0, .null, .int) := by decide +kernel
theorem jF_291_4 : j_F 291 4 = some (.invokevirtual 472, 3, 287, 4, .null, .int) := by decide +kernel
theorem jF_291_7 : j_F 291 7 = some (.ireturn, 1, 0, 0, .null, .int) := by decide +kernel
theorem jF_292_0 : j_F 292 0 = some (.aload_n 0, 1, 0, 0, .null, .int) := by decide +kernel
theorem jF_292_1 : j_F 292 1 = some (.iconst 2, 1, 0, 0, .null, .int) := by decide +kernel
theorem jF_292_2 : j_F 292 2 = some (.iload_n 1, 1, 0, 0, .null, .int) := by decide +kernel
theorem jF_292_3 : j_F 292 3 = some (.iload_n 2, 1, 0, 0, .null, .int) := by decide +kernel
theorem jF_292_4 : j_F 292 4 = some (.invokevirtual 472, 3, 287, 4, .null, .int) := by decide +kernel
theorem jF_292_7 : j_F 292 7 = some (.ireturn, 1, 0, 0, .null, .int) := by decide +kernel
theorem jF_293_0 : j_F 293 0 = some (.iload_n 1, 1, 0, 0, .null, .int) := by decide +kernel
theorem jF_293_1 : j_F 293 1 = some (.i2l, 1, 0, 0, .null, .int) := by decide +kernel
theorem jF_293_2 : j_F 293 2 = some (.lconst 0, 1, 0, 0, .null, .int) := by decide +kernel
theorem jF_293_3 : j_F 293 3 = some (.ldc2_w 476, 3, 0, 0, (.long (2)), .int) := by decide +kernel
theorem jF_293_6 : j_F 293 6 = some (.invokestatic 252, 3, 232, 3, .null, .int) := by decide +kernel
theorem jF_293_9 : j_F 293 9 = some (.ifCond .ne 5, 3, 14, 0, .null, .int) := by decide +kernel
theorem jF_293_12 : j_F 293 12 = some (.iconst (-1), 1, 0, 0, .null, .int) := by decide +kernel
theorem jF_293_13 : j_F 293 13 = some (.ireturn, 1, 0, 0, .null, .int) := by decide +kernel
theorem jF_293_14 : j_F 293 14 = some (.iconst 0, 1, 0, 0, .null, .int) := by decide +kernel
theorem jF_293_15 : j_F 293 15 = some (.istore_n 2, 1, 0, 0, .null, .int) := by decide +kernel
theorem jF_293_16 : j_F 293 16 = some (.iconst 0, 1, 0, 0, .null, .int) := by decide +kernel
theorem jF_293_17 : j_F 293 17 = some (.istore_n 3, 1, 0, 0, .null, .int) := by decide +kernel
theorem jF_293_18 : j_F 293 18 = some (.iload_n 3, 1, 0, 0, .null, .int) := by decide +kernel
theorem jF_293_19 : j_F 293 19 = some (.aload_n 0, 1, 0, 0, .null, .int) := by decide +kernel
theorem jF_293_20 : j_F 293 20 = some (.getfield 109, 3, 12, 47, .null, (.array .int)) := by decide +kernel
theorem jF_293_23 : j_F 293 23 = some (.iconst 0, 1, 0, 0, .null, .int) := by decide +kernel
theorem jF_293_24 : j_F 293 24 = some (.iaload, 1, 0, 0, .null, .int) := by decide +kernel
theorem jF_293_25 : j_F 293 25 = some (.if_icmp .gt 56, 3, 81, 0, .null, .int) := by decide +kernel
theorem jF_293_28 : j_F 293 28 = some (.iconst 0, 1, 0, 0, .null, .int) := by decide +kernel
theorem jF_293_29 : j_F 293 29 = some (.istore 4, 2, 0, 0, .null, .int) := by decide +kernel
theorem jF_293_31 : j_F 293 31 = some (.iload 4, 2, 0, 0, .null, .int) := by decide +kernel
theorem jF_293_33 : j_F 293 33 = some (.iload_n 1, 1, 0, 0, .null, .int) := by decide +kernel
theorem jF_293_34 : j_F 293 34 = some (.iconst 1, 1, 0, 0, .null, .int) := by decide +kernel
theorem jF_293_35 : j_F 293 35 = some (.if_icmp .ne 7, 3, 42, 0, .null, .int) := by decide +kernel
theorem jF_293_38 : j_F 293 38 = some (.iconst 1, 1, 0, 0, .null, .int) := by decide +kernel
theorem jF_293_39 : j_F 293 39 = some (.goto 5, 3, 44, 0, .null, .int) := by decide +kernel
theorem jF_293_42 : j_F 293 42 = some (.bipush 23, 2, 0, 0, .null, .int) := by decide +kernel
theorem jF_293_44 : j_F 293 44 = some (.if_icmp .ge 31, 3, 75, 0, .null, .int) := by decide +kernel
theorem jF_293_47 : j_F 293 47 = some (.aload_n 0, 1, 0, 0, .null, .int) := by decide +kernel
theorem jF_293_48 : j_F 293 48 = some (.iconst 0, 1, 0, 0, .null, .int) := by decide +kernel
theorem jF_293_49 : j_F 293 49 = some (.iload_n 1, 1, 0, 0, .null, .int) := by decide +kernel
theorem jF_293_50 : j_F 293 50 = some (.iload_n 3, 1, 0, 0, .null, .int) := by decide +kernel
theorem jF_293_51 : j_F 293 51 = some (.iload 4, 2, 0, 0, .null, .int) := by decide +kernel
theorem jF_293_53 : j_F 293 53 = some (.invokevirtual 465, 3, 288, 5, .null, .int) := by decide +kernel
theorem jF_293_56 : j_F 293 56 = some (.ifCond .eq 13, 3, 69, 0, .null, .int) := by decide +kernel
theorem jF_293_59 : j_F 293 59 = some (.aload_n 0, 1, 0, 0, .null, .int) := by decide +kernel
theorem jF_293_60 : j_F 293 60 = some (.invokevirtual 469, 3, 290, 1, .null, .int) := by decide +kernel
theorem jF_293_63 : j_F 293 63 = some (.ifCond .eq 6, 3, 69, 0, .null, .int) := by decide +kernel
theorem jF_293_66 : j_F 293 66 = some (.iinc 2 1, 3, 0, 0, .null, .int) := by decide +kernel
theorem jF_293_69 : j_F 293 69 = some (.iinc 4 1, 3, 0, 0, .null, .int) := by decide +kernel
theorem jF_293_72 : j_F 293 72 = some (.goto (-41), 3, 31, 0, .null, .int) := by decide +kernel
theorem jF_293_75 : j_F 293 75 = some (.iinc 3 1, 3, 0, 0, .null, .int) := by decide +kernel
theorem jF_293_78 : j_F 293 78 = some (.goto (-60), 3, 18, 0, .null, .int) := by decide +kernel
theorem jF_293_81 : j_F 293 81 = some (.iload_n 2, 1, 0, 0, .null, .int) := by decide +kernel
theorem jF_293_82 : j_F 293 82 = some (.ireturn, 1, 0, 0, .null, .int) := by decide +kernel
