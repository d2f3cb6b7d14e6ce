/-! CODE. -/
theorem jF_72_0 : j_F 72 0 = some (.aload_n 0, 1, 0, 0, .null, .int) := by decide +kernel
theorem jF_72_1 : j_F 72 1 = some (.iconst 0, 1, 0, 0, .null, .int) := by decide +kernel
theorem jF_72_2 : j_F 72 2 = some (.putfield 18, 3, 0, 3, .null, .int) := by decide +kernel
theorem jF_72_5 : j_F 72 5 = some (.return_, 1, 0, 0, .null, .int) := by decide +kernel
theorem jF_73_0 : j_F 73 0 = some (.aload_n 0, 1, 0, 0, .null, .int) := by decide +kernel
theorem jF_73_1 : j_F 73 1 = some (.iconst 0, 1, 0, 0, .null, .int) := by decide +kernel
theorem jF_73_2 : j_F 73 2 = some (.putfield 38, 3, 5, 14, .null, .boolean) := by decide +kernel
theorem jF_73_5 : j_F 73 5 = some (.aload_n 0, 1, 0, 0, .null, .int) := by decide +kernel
theorem jF_73_6 : j_F 73 6 = some (.getfield 31, 3, 5, 6, .null, (.array .boolean)) := by decide +kernel
theorem jF_73_9 : j_F 73 9 = some (.iconst 0, 1, 0, 0, .null, .int) := by decide +kernel
theorem jF_73_10 : j_F 73 10 = some (.iconst 0, 1, 0, 0, .null, .int) := by decide +kernel
theorem jF_73_11 : j_F 73 11 = some (.bastore, 1, 0, 0, .null, .int) := by decide +kernel
theorem jF_73_12 : j_F 73 12 = some (.aload_n 0, 1, 0, 0, .null, .int) := by decide +kernel
theorem jF_73_13 : j_F 73 13 = some (.getfield 31, 3, 5, 6, .null, (.array .boolean)) := by decide +kernel
theorem jF_73_16 : j_F 73 16 = some (.iconst 1, 1, 0, 0, .null, .int) := by decide +kernel
theorem jF_73_17 : j_F 73 17 = some (.iconst 0, 1, 0, 0, .null, .int) := by decide +kernel
theorem jF_73_18 : j_F 73 18 = some (.bastore, 1, 0, 0, .null, .int) := by decide +kernel
theorem jF_73_19 : j_F 73 19 = some (.return_, 1, 0, 0, .null, .int) := by decide +kernel
theorem jF_88_0 : j_F 88 0 = some (.aload_n 0, 1, 0, 0, .null, .int) := by decide +kernel
theorem jF_88_1 : j_F 88 1 = some (.aload_n 0, 1, 0, 0, .null, .int) := by decide +kernel
theorem jF_88_2 : j_F 88 2 = some (.getfield 22, 3, 0, 2, .null, .int) := by decide +kernel
theorem jF_88_5 : j_F 88 5 = some (.iconst 1, 1, 0, 0, .null, .int) := by decide +kernel
theorem jF_88_6 : j_F 88 6 = some (.iadd, 1, 0, 0, .null, .int) := by decide +kernel
theorem jF_88_7 : j_F 88 7 = some (.bipush 20, 2, 0, 0, .null, .int) := by decide +kernel
theorem jF_88_9 : j_F 88 9 = some (.irem, 1, 0, 0, .null, .int) := by decide +kernel
theorem jF_88_10 : j_F 88 10 = some (.putfield 22, 3, 0, 2, .null, .int) := by decide +kernel
theorem jF_88_13 : j_F 88 13 = some (.aload_n 0, 1, 0, 0, .null, .int) := by decide +kernel
theorem jF_88_14 : j_F 88 14 = some (.getfield 15, 3, 0, 1, .null, (.array .int)) := by decide +kernel
theorem jF_88_17 : j_F 88 17 = some (.aload_n 0, 1, 0, 0, .null, .int) := by decide +kernel
theorem jF_88_18 : j_F 88 18 = some (.getfield 22, 3, 0, 2, .null, .int) := by decide +kernel
theorem jF_88_21 : j_F 88 21 = some (.aload_n 1, 1, 0, 0, .null, .int) := by decide +kernel
theorem jF_88_22 : j_F 88 22 = some (.getfield 25, 3, 4, 1, .null, .int) := by decide +kernel
theorem jF_88_25 : j_F 88 25 = some (.iastore, 1, 0, 0, .null, .int) := by decide +kernel
theorem jF_88_26 : j_F 88 26 = some (.aload_n 1, 1, 0, 0, .null, .int) := by decide +kernel
theorem jF_88_27 : j_F 88 27 = some (.getfield 30, 3, 4, 0, .null, (.array .int)) := by decide +kernel
theorem jF_88_30 : j_F 88 30 = some (.iconst 0, 1, 0, 0, .null, .int) := by decide +kernel
theorem jF_88_31 : j_F 88 31 = some (.aload_n 0, 1, 0, 0, .null, .int) := by decide +kernel
theorem jF_88_32 : j_F 88 32 = some (.getfield 11, 3, 0, 0, .null, (.array .int)) := by decide +kernel
theorem jF_88_35 : j_F 88 35 = some (.aload_n 0, 1, 0, 0, .null, .int) := by decide +kernel
theorem jF_88_36 : j_F 88 36 = some (.getfield 22, 3, 0, 2, .null, .int) := by decide +kernel
theorem jF_88_39 : j_F 88 39 = some (.bipush 60, 2, 0, 0, .null, .int) := by decide +kernel
theorem jF_88_41 : j_F 88 41 = some (.imul, 1, 0, 0, .null, .int) := by decide +kernel
theorem jF_88_42 : j_F 88 42 = some (.aload_n 1, 1, 0, 0, .null, .int) := by decide +kernel
theorem jF_88_43 : j_F 88 43 = some (.getfield 25, 3, 4, 1, .null, .int) := by decide +kernel
theorem jF_88_46 : j_F 88 46 = some (.invokestatic 33, 3, 1001, 0, .null, .int) := by decide +kernel
theorem jF_88_49 : j_F 88 49 = some (.aload_n 0, 1, 0, 0, .null, .int) := by decide +kernel
theorem jF_88_50 : j_F 88 50 = some (.getfield 18, 3, 0, 3, .null, .int) := by decide +kernel
theorem jF_88_53 : j_F 88 53 = some (.bipush 20, 2, 0, 0, .null, .int) := by decide +kernel
theorem jF_88_55 : j_F 88 55 = some (.if_icmp .ge 13, 3, 68, 0, .null, .int) := by decide +kernel
theorem jF_88_58 : j_F 88 58 = some (.aload_n 0, 1, 0, 0, .null, .int) := by decide +kernel
theorem jF_88_59 : j_F 88 59 = some (.dup, 1, 0, 0, .null, .int) := by decide +kernel
theorem jF_88_60 : j_F 88 60 = some (.getfield 18, 3, 0, 3, .null, .int) := by decide +kernel
theorem jF_88_63 : j_F 88 63 = some (.iconst 1, 1, 0, 0, .null, .int) := by decide +kernel
theorem jF_88_64 : j_F 88 64 = some (.iadd, 1, 0, 0, .null, .int) := by decide +kernel
theorem jF_88_65 : j_F 88 65 = some (.putfield 18, 3, 0, 3, .null, .int) := by decide +kernel
theorem jF_88_68 : j_F 88 68 = some (.return_, 1, 0, 0, .null, .int) := by decide +kernel
theorem jF_121_0 : j_F 121 0 = some (.aload_n 0, 1, 0, 0, .null, .int) := by decide +kernel
theorem jF_121_1 : j_F 121 1 = some (.getfield 18, 3, 0, 3, .null, .int) := by decide +kernel
theorem jF_121_4 : j_F 121 4 = some (.ifCond .le 65, 3, 69, 0, .null, .int) := by decide +kernel
theorem jF_121_7 : j_F 121 7 = some (.aload_n 1, 1, 0, 0, .null, .int) := by decide +kernel
theorem jF_121_8 : j_F 121 8 = some (.aload_n 0, 1, 0, 0, .null, .int) := by decide +kernel
theorem jF_121_9 : j_F 121 9 = some (.getfield 15, 3, 0, 1, .null, (.array .int)) := by decide +kernel
theorem jF_121_12 : j_F 121 12 = some (.aload_n 0, 1, 0, 0, .null, .int) := by decide +kernel
theorem jF_121_13 : j_F 121 13 = some (.getfield 22, 3, 0, 2, .null, .int) := by decide +kernel
theorem jF_121_16 : j_F 121 16 = some (.iaload, 1, 0, 0, .null, .int) := by decide +kernel
theorem jF_121_17 : j_F 121 17 = some (.putfield 25, 3, 4, 1, .null, .int) := by decide +kernel
theorem jF_121_20 : j_F 121 20 = some (.aload_n 0, 1, 0, 0, .null, .int) := by decide +kernel
theorem jF_121_21 : j_F 121 21 = some (.getfield 11, 3, 0, 0, .null, (.array .int)) := by decide +kernel
theorem jF_121_24 : j_F 121 24 = some (.aload_n 0, 1, 0, 0, .null, .int) := by decide +kernel
theorem jF_121_25 : j_F 121 25 = some (.getfield 22, 3, 0, 2, .null, .int) := by decide +kernel
theorem jF_121_28 : j_F 121 28 = some (.bipush 60, 2, 0, 0, .null, .int) := by decide +kernel
theorem jF_121_30 : j_F 121 30 = some (.imul, 1, 0, 0, .null, .int) := by decide +kernel
theorem jF_121_31 : j_F 121 31 = some (.aload_n 1, 1, 0, 0, .null, .int) := by decide +kernel
theorem jF_121_32 : j_F 121 32 = some (.getfield 30, 3, 4, 0, .null, (.array .int)) := by decide +kernel
theorem jF_121_35 : j_F 121 35 = some (.iconst 0, 1, 0, 0, .null, .int) := by decide +kernel
theorem jF_121_36 : j_F 121 36 = some (.aload_n 1, 1, 0, 0, .null, .int) := by decide +kernel
theorem jF_121_37 : j_F 121 37 = some (.getfield 25, 3, 4, 1, .null, .int) := by decide +kernel
theorem jF_121_40 : j_F 121 40 = some (.invokestatic 33, 3, 1001, 0, .null, .int) := by decide +kernel
theorem jF_121_43 : j_F 121 43 = some (.aload_n 0, 1, 0, 0, .null, .int) := by decide +kernel
theorem jF_121_44 : j_F 121 44 = some (.aload_n 0, 1, 0, 0, .null, .int) := by decide +kernel
theorem jF_121_45 : j_F 121 45 = some (.getfield 22, 3, 0, 2, .null, .int) := by decide +kernel
theorem jF_121_48 : j_F 121 48 = some (.bipush 20, 2, 0, 0, .null, .int) := by decide +kernel
theorem jF_121_50 : j_F 121 50 = some (.iadd, 1, 0, 0, .null, .int) := by decide +kernel
theorem jF_121_51 : j_F 121 51 = some (.iconst 1, 1, 0, 0, .null, .int) := by decide +kernel
theorem jF_121_52 : j_F 121 52 = some (.isub, 1, 0, 0, .null, .int) := by decide +kernel
theorem jF_121_53 : j_F 121 53 = some (.bipush 20, 2, 0, 0, .null, .int) := by decide +kernel
theorem jF_121_55 : j_F 121 55 = some (.irem, 1, 0, 0, .null, .int) := by decide +kernel
theorem jF_121_56 : j_F 121 56 = some (.putfield 22, 3, 0, 2, .null, .int) := by decide +kernel
theorem jF_121_59 : j_F 121 59 = some (.aload_n 0, 1, 0, 0, .null, .int) := by decide +kernel
theorem jF_121_60 : j_F 121 60 = some (.dup, 1, 0, 0, .null, .int) := by decide +kernel
theorem jF_121_61 : j_F 121 61 = some (.getfield 18, 3, 0, 3, .null, .int) := by decide +kernel
theorem jF_121_64 : j_F 121 64 = some (.iconst 1, 1, 0, 0, .null, .int) := by decide +kernel
theorem jF_121_65 : j_F 121 65 = some (.isub, 1, 0, 0, .null, .int) := by decide +kernel
theorem jF_121_66 : j_F 121 66 = some (.putfield 18, 3, 0, 3, .null, .int) := by decide +kernel
theorem jF_121_69 : j_F 121 69 = some (.return_, 1, 0, 0, .null, .int) := by decide +kernel
theorem jF_125_0 : j_F 125 0 = some (.iload 5, 2, 0, 0, .null, .int) := by decide +kernel
theorem jF_125_2 : j_F 125 2 = some (.ifCond .lt 24, 3, 26, 0, .null, .int) := by decide +kernel
theorem jF_125_5 : j_F 125 5 = some (.iload 5, 2, 0, 0, .null, .int) := by decide +kernel
theorem jF_125_7 : j_F 125 7 = some (.iconst 4, 1, 0, 0, .null, .int) := by decide +kernel
theorem jF_125_8 : j_F 125 8 = some (.if_icmp .ge 18, 3, 26, 0, .null, .int) := by decide +kernel
theorem jF_125_11 : j_F 125 11 = some (.iload 4, 2, 0, 0, .null, .int) := by decide +kernel
theorem jF_125_13 : j_F 125 13 = some (.ifCond .lt 13, 3, 26, 0, .null, .int) := by decide +kernel
theorem jF_125_16 : j_F 125 16 = some (.iload 4, 2, 0, 0, .null, .int) := by decide +kernel
theorem jF_125_18 : j_F 125 18 = some (.aload_n 0, 1, 0, 0, .null, .int) := by decide +kernel
theorem jF_125_19 : j_F 125 19 = some (.getfield 28, 3, 5, 5, .null, (.array .long)) := by decide +kernel
theorem jF_125_22 : j_F 125 22 = some (.arraylength, 1, 0, 0, .null, .int) := by decide +kernel
theorem jF_125_23 : j_F 125 23 = some (.if_icmp .lt 5, 3, 28, 0, .null, .int) := by decide +kernel
theorem jF_125_26 : j_F 125 26 = some (.iconst (-1), 1, 0, 0, .null, .int) := by decide +kernel
theorem jF_125_27 : j_F 125 27 = some (.ireturn, 1, 0, 0, .null, .int) := by decide +kernel
theorem jF_125_28 : j_F 125 28 = some (.iload 4, 2, 0, 0, .null, .int) := by decide +kernel
theorem jF_125_30 : j_F 125 30 = some (.iconst 4, 1, 0, 0, .null, .int) := by decide +kernel
theorem jF_125_31 : j_F 125 31 = some (.imul, 1, 0, 0, .null, .int) := by decide +kernel
theorem jF_125_32 : j_F 125 32 = some (.istore 6, 2, 0, 0, .null, .int) := by decide +kernel
theorem jF_125_34 : j_F 125 34 = some (.aload_n 0, 1, 0, 0, .null, .int) := by decide +kernel
theorem jF_125_35 : j_F 125 35 = some (.getfield 31, 3, 5, 6, .null, (.array .boolean)) := by decide +kernel
theorem jF_125_38 : j_F 125 38 = some (.iload 4, 2, 0, 0, .null, .int) := by decide +kernel
theorem jF_125_40 : j_F 125 40 = some (.baload, 1, 0, 0, .null, .int) := by decide +kernel
theorem jF_125_41 : j_F 125 41 = some (.ifCond .eq 15, 3, 56, 0, .null, .int) := by decide +kernel
theorem jF_125_44 : j_F 125 44 = some (.aload_n 0, 1, 0, 0, .null, .int) := by decide +kernel
theorem jF_125_45 : j_F 125 45 = some (.getfield 28, 3, 5, 5, .null, (.array .long)) := by decide +kernel
theorem jF_125_48 : j_F 125 48 = some (.iload 4, 2, 0, 0, .null, .int) := by decide +kernel
theorem jF_125_50 : j_F 125 50 = some (.laload, 1, 0, 0, .null, .int) := by decide +kernel
theorem jF_125_51 : j_F 125 51 = some (.lload_n 2, 1, 0, 0, .null, .int) := by decide +kernel
theorem jF_125_52 : j_F 125 52 = some (.lcmp, 1, 0, 0, .null, .int) := by decide +kernel
theorem jF_125_53 : j_F 125 53 = some (.ifCond .eq 31, 3, 84, 0, .null, .int) := by decide +kernel
theorem jF_125_56 : j_F 125 56 = some (.aload_n 0, 1, 0, 0, .null, .int) := by decide +kernel
theorem jF_125_57 : j_F 125 57 = some (.aload_n 1, 1, 0, 0, .null, .int) := by decide +kernel
theorem jF_125_58 : j_F 125 58 = some (.invokevirtual 42, 3, 126, 2, .null, .int) := by decide +kernel
theorem jF_125_61 : j_F 125 61 = some (.aload_n 0, 1, 0, 0, .null, .int) := by decide +kernel
theorem jF_125_62 : j_F 125 62 = some (.lload_n 2, 1, 0, 0, .null, .int) := by decide +kernel
theorem jF_125_63 : j_F 125 63 = some (.iload 6, 2, 0, 0, .null, .int) := by decide +kernel
theorem jF_125_65 : j_F 125 65 = some (.invokevirtual 86, 3, 133, 3, .null, .int) := by decide +kernel
theorem jF_125_68 : j_F 125 68 = some (.aload_n 0, 1, 0, 0, .null, .int) := by decide +kernel
theorem jF_125_69 : j_F 125 69 = some (.getfield 28, 3, 5, 5, .null, (.array .long)) := by decide +kernel
theorem jF_125_72 : j_F 125 72 = some (.iload 4, 2, 0, 0, .null, .int) := by decide +kernel
theorem jF_125_74 : j_F 125 74 = some (.lload_n 2, 1, 0, 0, .null, .int) := by decide +kernel
theorem jF_125_75 : j_F 125 75 = some (.lastore, 1, 0, 0, .null, .int) := by decide +kernel
theorem jF_125_76 : j_F 125 76 = some (.aload_n 0, 1, 0, 0, .null, .int) := by decide +kernel
theorem jF_125_77 : j_F 125 77 = some (.getfield 31, 3, 5, 6, .null, (.array .boolean)) := by decide +kernel
theorem jF_125_80 : j_F 125 80 = some (.iload 4, 2, 0, 0, .null, .int) := by decide +kernel
theorem jF_125_82 : j_F 125 82 = some (.iconst 1, 1, 0, 0, .null, .int) := by decide +kernel
theorem jF_125_83 : j_F 125 83 = some (.bastore, 1, 0, 0, .null, .int) := by decide +kernel
theorem jF_125_84 : j_F 125 84 = some (.aload_n 0, 1, 0, 0, .null, .int) := by decide +kernel
theorem jF_125_85 : j_F 125 85 = some (.getfield 35, 3, 5, 7, .null, (.array .int)) := by decide +kernel
theorem jF_125_88 : j_F 125 88 = some (.iload 6, 2, 0, 0, .null, .int) := by decide +kernel
theorem jF_125_90 : j_F 125 90 = some (.iload 5, 2, 0, 0, .null, .int) := by decide +kernel
theorem jF_125_92 : j_F 125 92 = some (.iadd, 1, 0, 0, .null, .int) := by decide +kernel
theorem jF_125_93 : j_F 125 93 = some (.iaload, 1, 0, 0, .null, .int) := by decide +kernel
theorem jF_125_94 : j_F 125 94 = some (.ireturn, 1, 0, 0, .null, .int) := by decide +kernel
theorem jF_126_0 : j_F 126 0 = some (.aload_n 0, 1, 0, 0, .null, .int) := by decide +kernel
theorem jF_126_1 : j_F 126 1 = some (.getfield 38, 3, 5, 14, .null, .boolean) := by decide +kernel
theorem jF_126_4 : j_F 126 4 = some (.ifCond .eq 4, 3, 8, 0, .null, .int) := by decide +kernel
theorem jF_126_7 : j_F 126 7 = some (.return_, 1, 0, 0, .null, .int) := by decide +kernel
theorem jF_126_8 : j_F 126 8 = some (.aload_n 0, 1, 0, 0, .null, .int) := by decide +kernel
theorem jF_126_9 : j_F 126 9 = some (.iconst 1, 1, 0, 0, .null, .int) := by decide +kernel
theorem jF_126_10 : j_F 126 10 = some (.putfield 38, 3, 5, 14, .null, .boolean) := by decide +kernel
theorem jF_126_13 : j_F 126 13 = some (.aload_n 0, 1, 0, 0, .null, .int) := by decide +kernel
theorem jF_126_14 : j_F 126 14 = some (.aload_n 1, 1, 0, 0, .null, .int) := by decide +kernel
theorem jF_126_15 : j_F 126 15 = some (.invokevirtual 90, 3, 127, 2, .null, .int) := by decide +kernel
theorem jF_126_18 : j_F 126 18 = some (.aload_n 0, 1, 0, 0, .null, .int) := by decide +kernel
theorem jF_126_19 : j_F 126 19 = some (.invokevirtual 93, 3, 128, 1, .null, .int) := by decide +kernel
theorem jF_126_22 : j_F 126 22 = some (.aload_n 0, 1, 0, 0, .null, .int) := by decide +kernel
theorem jF_126_23 : j_F 126 23 = some (.invokevirtual 96, 3, 129, 1, .null, .int) := by decide +kernel
theorem jF_126_26 : j_F 126 26 = some (.aload_n 0, 1, 0, 0, .null, .int) := by decide +kernel
theorem jF_126_27 : j_F 126 27 = some (.aload_n 1, 1, 0, 0, .null, .int) := by decide +kernel
theorem jF_126_28 : j_F 126 28 = some (.invokevirtual 99, 3, 132, 2, .null, .int) := by decide +kernel
theorem jF_126_31 : j_F 126 31 = some (.return_, 1, 0, 0, .null, .int) := by decide +kernel
theorem jF_127_0 : j_F 127 0 = some (.aload_n 0, 1, 0, 0, .null, .int) := by decide +kernel
theorem jF_127_1 : j_F 127 1 = some (.iconst 0, 1, 0, 0, .null, .int) := by decide +kernel
theorem jF_127_2 : j_F 127 2 = some (.putfield 102, 3, 5, 8, .null, .int) := by decide +kernel
theorem jF_127_5 : j_F 127 5 = some (.iconst 0, 1, 0, 0, .null, .int) := by decide +kernel
theorem jF_127_6 : j_F 127 6 = some (.istore_n 2, 1, 0, 0, .null, .int) := by decide +kernel
theorem jF_127_7 : j_F 127 7 = some (.iload_n 2, 1, 0, 0, .null, .int) := by decide +kernel
theorem jF_127_8 : j_F 127 8 = some (.bipush 12, 2, 0, 0, .null, .int) := by decide +kernel
theorem jF_127_10 : j_F 127 10 = some (.if_icmp .ge 68, 3, 78, 0, .null, .int) := by decide +kernel
theorem jF_127_13 : j_F 127 13 = some (.aload_n 1, 1, 0, 0, .null, .int) := by decide +kernel
theorem jF_127_14 : j_F 127 14 = some (.iload_n 2, 1, 0, 0, .null, .int) := by decide +kernel
theorem jF_127_15 : j_F 127 15 = some (.invokevirtual 105, 3, 108, 2, .null, .int) := by decide +kernel
theorem jF_127_18 : j_F 127 18 = some (.ifCond .eq 54, 3, 72, 0, .null, .int) := by decide +kernel
theorem jF_127_21 : j_F 127 21 = some (.aload_n 0, 1, 0, 0, .null, .int) := by decide +kernel
theorem jF_127_22 : j_F 127 22 = some (.getfield 11, 3, 5, 0, .null, (.array .long)) := by decide +kernel
theorem jF_127_25 : j_F 127 25 = some (.aload_n 0, 1, 0, 0, .null, .int) := by decide +kernel
theorem jF_127_26 : j_F 127 26 = some (.getfield 102, 3, 5, 8, .null, .int) := by decide +kernel
theorem jF_127_29 : j_F 127 29 = some (.aload_n 1, 1, 0, 0, .null, .int) := by decide +kernel
theorem jF_127_30 : j_F 127 30 = some (.getfield 109, 3, 8, 5, .null, (.array .long)) := by decide +kernel
theorem jF_127_33 : j_F 127 33 = some (.iload_n 2, 1, 0, 0, .null, .int) := by decide +kernel
theorem jF_127_34 : j_F 127 34 = some (.laload, 1, 0, 0, .null, .int) := by decide +kernel
theorem jF_127_35 : j_F 127 35 = some (.lastore, 1, 0, 0, .null, .int) := by decide +kernel
theorem jF_127_36 : j_F 127 36 = some (.aload_n 0, 1, 0, 0, .null, .int) := by decide +kernel
theorem jF_127_37 : j_F 127 37 = some (.getfield 11, 3, 5, 0, .null, (.array .long)) := by decide +kernel
theorem jF_127_40 : j_F 127 40 = some (.aload_n 0, 1, 0, 0, .null, .int) := by decide +kernel
theorem jF_127_41 : j_F 127 41 = some (.getfield 102, 3, 5, 8, .null, .int) := by decide +kernel
theorem jF_127_44 : j_F 127 44 = some (.iconst 1, 1, 0, 0, .null, .int) := by decide +kernel
theorem jF_127_45 : j_F 127 45 = some (.iadd, 1, 0, 0, .null, .int) := by decide +kernel
theorem jF_127_46 : j_F 127 46 = some (.aload_n 1, 1, 0, 0, .null, .int) := by decide +kernel
theorem jF_127_47 : j_F 127 47 = some (.getfield 112, 3, 8, 13, .null, .long) := by decide +kernel
theorem jF_127_50 : j_F 127 50 = some (.aload_n 1, 1, 0, 0, .null, .int) := by decide +kernel
theorem jF_127_51 : j_F 127 51 = some (.getfield 109, 3, 8, 5, .null, (.array .long)) := by decide +kernel
theorem jF_127_54 : j_F 127 54 = some (.iload_n 2, 1, 0, 0, .null, .int) := by decide +kernel
theorem jF_127_55 : j_F 127 55 = some (.laload, 1, 0, 0, .null, .int) := by decide +kernel
theorem jF_127_56 : j_F 127 56 = some (.ldc2_w 115, 3, 0, 0, (.long (-1)), .int) := by decide +kernel
theorem jF_127_59 : j_F 127 59 = some (.lxor, 1, 0, 0, .null, .int) := by decide +kernel
theorem jF_127_60 : j_F 127 60 = some (.land, 1, 0, 0, .null, .int) := by decide +kernel
theorem jF_127_61 : j_F 127 61 = some (.lastore, 1, 0, 0, .null, .int) := by decide +kernel
theorem jF_127_62 : j_F 127 62 = some (.aload_n 0, 1, 0, 0, .null, .int) := by decide +kernel
theorem jF_127_63 : j_F 127 63 = some (.dup, 1, 0, 0, .null, .int) := by decide +kernel
theorem jF_127_64 : j_F 127 64 = some (.getfield 102, 3, 5, 8, .null, .int) := by decide +kernel
theorem jF_127_67 : j_F 127 67 = some (.iconst 2, 1, 0, 0, .null, .int) := by decide +kernel
theorem jF_127_68 : j_F 127 68 = some (.iadd, 1, 0, 0, .null, .int) := by decide +kernel
theorem jF_127_69 : j_F 127 69 = some (.putfield 102, 3, 5, 8, .null, .int) := by decide +kernel
theorem jF_127_72 : j_F 127 72 = some (.iinc 2 1, 3, 0, 0, .null, .int) := by decide +kernel
theorem jF_127_75 : j_F 127 75 = some (.goto (-68), 3, 7, 0, .null, .int) := by decide +kernel
theorem jF_127_78 : j_F 127 78 = some (.return_, 1, 0, 0, .null, .int) := by decide +kernel
theorem jF_128_0 : j_F 128 0 = some (.iconst 0, 1, 0, 0, .null, .int) := by decide +kernel
theorem jF_128_1 : j_F 128 1 = some (.istore_n 1, 1, 0, 0, .null, .int) := by decide +kernel
theorem jF_128_2 : j_F 128 2 = some (.iload_n 1, 1, 0, 0, .null, .int) := by decide +kernel
theorem jF_128_3 : j_F 128 3 = some (.aload_n 0, 1, 0, 0, .null, .int) := by decide +kernel
theorem jF_128_4 : j_F 128 4 = some (.getfield 102, 3, 5, 8, .null, .int) := by decide +kernel
theorem jF_128_7 : j_F 128 7 = some (.if_icmp .ge 21, 3, 28, 0, .null, .int) := by decide +kernel
theorem jF_128_10 : j_F 128 10 = some (.aload_n 0, 1, 0, 0, .null, .int) := by decide +kernel
theorem jF_128_11 : j_F 128 11 = some (.getfield 15, 3, 5, 1, .null, (.array .long)) := by decide +kernel
theorem jF_128_14 : j_F 128 14 = some (.iload_n 1, 1, 0, 0, .null, .int) := by decide +kernel
theorem jF_128_15 : j_F 128 15 = some (.aload_n 0, 1, 0, 0, .null, .int) := by decide +kernel
theorem jF_128_16 : j_F 128 16 = some (.getfield 11, 3, 5, 0, .null, (.array .long)) := by decide +kernel
theorem jF_128_19 : j_F 128 19 = some (.iload_n 1, 1, 0, 0, .null, .int) := by decide +kernel
theorem jF_128_20 : j_F 128 20 = some (.laload, 1, 0, 0, .null, .int) := by decide +kernel
theorem jF_128_21 : j_F 128 21 = some (.lastore, 1, 0, 0, .null, .int) := by decide +kernel
theorem jF_128_22 : j_F 128 22 = some (.iinc 1 1, 3, 0, 0, .null, .int) := by decide +kernel
theorem jF_128_25 : j_F 128 25 = some (.goto (-23), 3, 2, 0, .null, .int) := by decide +kernel
theorem jF_128_28 : j_F 128 28 = some (.aload_n 0, 1, 0, 0, .null, .int) := by decide +kernel
theorem jF_128_29 : j_F 128 29 = some (.aload_n 0, 1, 0, 0, .null, .int) := by decide +kernel
theorem jF_128_30 : j_F 128 30 = some (.getfield 102, 3, 5, 8, .null, .int) := by decide +kernel
theorem jF_128_33 : j_F 128 33 = some (.putfield 46, 3, 5, 9, .null, .int) := by decide +kernel
theorem jF_128_36 : j_F 128 36 = some (.iconst 0, 1, 0, 0, .null, .int) := by decide +kernel
theorem jF_128_37 : j_F 128 37 = some (.istore_n 1, 1, 0, 0, .null, .int) := by decide +kernel
theorem jF_128_38 : j_F 128 38 = some (.iload_n 1, 1, 0, 0, .null, .int) := by decide +kernel
theorem jF_128_39 : j_F 128 39 = some (.aload_n 0, 1, 0, 0, .null, .int) := by decide +kernel
theorem jF_128_40 : j_F 128 40 = some (.getfield 102, 3, 5, 8, .null, .int) := by decide +kernel
theorem jF_128_43 : j_F 128 43 = some (.if_icmp .ge 109, 3, 152, 0, .null, .int) := by decide +kernel
theorem jF_128_46 : j_F 128 46 = some (.iconst 0, 1, 0, 0, .null, .int) := by decide +kernel
theorem jF_128_47 : j_F 128 47 = some (.istore_n 2, 1, 0, 0, .null, .int) := by decide +kernel
theorem jF_128_48 : j_F 128 48 = some (.iload_n 2, 1, 0, 0, .null, .int) := by decide +kernel
theorem jF_128_49 : j_F 128 49 = some (.aload_n 0, 1, 0, 0, .null, .int) := by decide +kernel
theorem jF_128_50 : j_F 128 50 = some (.getfield 102, 3, 5, 8, .null, .int) := by decide +kernel
theorem jF_128_53 : j_F 128 53 = some (.if_icmp .ge 93, 3, 146, 0, .null, .int) := by decide +kernel
theorem jF_128_56 : j_F 128 56 = some (.aload_n 0, 1, 0, 0, .null, .int) := by decide +kernel
theorem jF_128_57 : j_F 128 57 = some (.getfield 15, 3, 5, 1, .null, (.array .long)) := by decide +kernel
theorem jF_128_60 : j_F 128 60 = some (.aload_n 0, 1, 0, 0, .null, .int) := by decide +kernel
theorem jF_128_61 : j_F 128 61 = some (.getfield 46, 3, 5, 9, .null, .int) := by decide +kernel
theorem jF_128_64 : j_F 128 64 = some (.aload_n 0, 1, 0, 0, .null, .int) := by decide +kernel
theorem jF_128_65 : j_F 128 65 = some (.getfield 11, 3, 5, 0, .null, (.array .long)) := by decide +kernel
theorem jF_128_68 : j_F 128 68 = some (.iload_n 1, 1, 0, 0, .null, .int) := by decide +kernel
theorem jF_128_69 : j_F 128 69 = some (.laload, 1, 0, 0, .null, .int) := by decide +kernel
theorem jF_128_70 : j_F 128 70 = some (.aload_n 0, 1, 0, 0, .null, .int) := by decide +kernel
theorem jF_128_71 : j_F 128 71 = some (.getfield 11, 3, 5, 0, .null, (.array .long)) := by decide +kernel
theorem jF_128_74 : j_F 128 74 = some (.iload_n 2, 1, 0, 0, .null, .int) := by decide +kernel
theorem jF_128_75 : j_F 128 75 = some (.laload, 1, 0, 0, .null, .int) := by decide +kernel
theorem jF_128_76 : j_F 128 76 = some (.land, 1, 0, 0, .null, .int) := by decide +kernel
theorem jF_128_77 : j_F 128 77 = some (.lastore, 1, 0, 0, .null, .int) := by decide +kernel
theorem jF_128_78 : j_F 128 78 = some (.aload_n 0, 1, 0, 0, .null, .int) := by decide +kernel
theorem jF_128_79 : j_F 128 79 = some (.getfield 15, 3, 5, 1, .null, (.array .long)) := by decide +kernel
theorem jF_128_82 : j_F 128 82 = some (.aload_n 0, 1, 0, 0, .null, .int) := by decide +kernel
theorem jF_128_83 : j_F 128 83 = some (.getfield 46, 3, 5, 9, .null, .int) := by decide +kernel
theorem jF_128_86 : j_F 128 86 = some (.iconst 1, 1, 0, 0, .null, .int) := by decide +kernel
theorem jF_128_87 : j_F 128 87 = some (.iadd, 1, 0, 0, .null, .int) := by decide +kernel
theorem jF_128_88 : j_F 128 88 = some (.aload_n 0, 1, 0, 0, .null, .int) := by decide +kernel
theorem jF_128_89 : j_F 128 89 = some (.getfield 11, 3, 5, 0, .null, (.array .long)) := by decide +kernel
theorem jF_128_92 : j_F 128 92 = some (.iload_n 1, 1, 0, 0, .null, .int) := by decide +kernel
theorem jF_128_93 : j_F 128 93 = some (.laload, 1, 0, 0, .null, .int) := by decide +kernel
theorem jF_128_94 : j_F 128 94 = some (.aload_n 0, 1, 0, 0, .null, .int) := by decide +kernel
theorem jF_128_95 : j_F 128 95 = some (.getfield 11, 3, 5, 0, .null, (.array .long)) := by decide +kernel
theorem jF_128_98 : j_F 128 98 = some (.iload_n 2, 1, 0, 0, .null, .int) := by decide +kernel
theorem jF_128_99 : j_F 128 99 = some (.laload, 1, 0, 0, .null, .int) := by decide +kernel
theorem jF_128_100 : j_F 128 100 = some (.lor, 1, 0, 0, .null, .int) := by decide +kernel
theorem jF_128_101 : j_F 128 101 = some (.lastore, 1, 0, 0, .null, .int) := by decide +kernel
theorem jF_128_102 : j_F 128 102 = some (.aload_n 0, 1, 0, 0, .null, .int) := by decide +kernel
theorem jF_128_103 : j_F 128 103 = some (.getfield 15, 3, 5, 1, .null, (.array .long)) := by decide +kernel
theorem jF_128_106 : j_F 128 106 = some (.aload_n 0, 1, 0, 0, .null, .int) := by decide +kernel
theorem jF_128_107 : j_F 128 107 = some (.getfield 46, 3, 5, 9, .null, .int) := by decide +kernel
theorem jF_128_110 : j_F 128 110 = some (.iconst 2, 1, 0, 0, .null, .int) := by decide +kernel
theorem jF_128_111 : j_F 128 111 = some (.iadd, 1, 0, 0, .null, .int) := by decide +kernel
theorem jF_128_112 : j_F 128 112 = some (.aload_n 0, 1, 0, 0, .null, .int) := by decide +kernel
theorem jF_128_113 : j_F 128 113 = some (.getfield 11, 3, 5, 0, .null, (.array .long)) := by decide +kernel
theorem jF_128_116 : j_F 128 116 = some (.iload_n 1, 1, 0, 0, .null, .int) := by decide +kernel
theorem jF_128_117 : j_F 128 117 = some (.laload, 1, 0, 0, .null, .int) := by decide +kernel
theorem jF_128_118 : j_F 128 118 = some (.aload_n 0, 1, 0, 0, .null, .int) := by decide +kernel
theorem jF_128_119 : j_F 128 119 = some (.getfield 11, 3, 5, 0, .null, (.array .long)) := by decide +kernel
theorem jF_128_122 : j_F 128 122 = some (.iload_n 2, 1, 0, 0, .null, .int) := by decide +kernel
theorem jF_128_123 : j_F 128 123 = some (.laload, 1, 0, 0, .null, .int) := by decide +kernel
theorem jF_128_124 : j_F 128 124 = some (.ldc2_w 115, 3, 0, 0, (.long (-1)), .int) := by decide +kernel
theorem jF_128_127 : j_F 128 127 = some (.lxor, 1, 0, 0, .null, .int) := by decide +kernel
theorem jF_128_128 : j_F 128 128 = some (.land, 1, 0, 0, .null, .int) := by decide +kernel
theorem jF_128_129 : j_F 128 129 = some (.lastore, 1, 0, 0, .null, .int) := by decide +kernel
theorem jF_128_130 : j_F 128 130 = some (.aload_n 0, 1, 0, 0, .null, .int) := by decide +kernel
theorem jF_128_131 : j_F 128 131 = some (.dup, 1, 0, 0, .null, .int) := by decide +kernel
theorem jF_128_132 : j_F 128 132 = some (.getfield 46, 3, 5, 9, .null, .int) := by decide +kernel
theorem jF_128_135 : j_F 128 135 = some (.iconst 3, 1, 0, 0, .null, .int) := by decide +kernel
theorem jF_128_136 : j_F 128 136 = some (.iadd, 1, 0, 0, .null, .int) := by decide +kernel
theorem jF_128_137 : j_F 128 137 = some (.putfield 46, 3, 5, 9, .null, .int) := by decide +kernel
theorem jF_128_140 : j_F 128 140 = some (.iinc 2 1, 3, 0, 0, .null, .int) := by decide +kernel
theorem jF_128_143 : j_F 128 143 = some (.goto (-95), 3, 48, 0, .null, .int) := by decide +kernel
theorem jF_128_146 : j_F 128 146 = some (.iinc 1 1, 3, 0, 0, .null, .int) := by decide +kernel
theorem jF_128_149 : j_F 128 149 = some (.goto (-111), 3, 38, 0, .null, .int) := by decide +kernel
theorem jF_128_152 : j_F 128 152 = some (.return_, 1, 0, 0, .null, .int) := by decide +kernel
theorem jF_129_0 : j_F 129 0 = some (.aload_n 0, 1, 0, 0, .null, .int) := by decide +kernel
theorem jF_129_1 : j_F 129 1 = some (.getfield 22, 3, 5, 3, .null, (.array .int)) := by decide +kernel
theorem jF_129_4 : j_F 129 4 = some (.iconst 0, 1, 0, 0, .null, .int) := by decide +kernel
theorem jF_129_5 : j_F 129 5 = some (.invokestatic 117, 3, 31, 2, .null, .int) := by decide +kernel
theorem jF_129_8 : j_F 129 8 = some (.aload_n 0, 1, 0, 0, .null, .int) := by decide +kernel
theorem jF_129_9 : j_F 129 9 = some (.iconst 0, 1, 0, 0, .null, .int) := by decide +kernel
theorem jF_129_10 : j_F 129 10 = some (.putfield 123, 3, 5, 10, .null, .int) := by decide +kernel
theorem jF_129_13 : j_F 129 13 = some (.iconst 0, 1, 0, 0, .null, .int) := by decide +kernel
theorem jF_129_14 : j_F 129 14 = some (.istore_n 1, 1, 0, 0, .null, .int) := by decide +kernel
theorem jF_129_15 : j_F 129 15 = some (.iload_n 1, 1, 0, 0, .null, .int) := by decide +kernel
theorem jF_129_16 : j_F 129 16 = some (.aload_n 0, 1, 0, 0, .null, .int) := by decide +kernel
theorem jF_129_17 : j_F 129 17 = some (.getfield 46, 3, 5, 9, .null, .int) := by decide +kernel
theorem jF_129_20 : j_F 129 20 = some (.if_icmp .ge 91, 3, 111, 0, .null, .int) := by decide +kernel
theorem jF_129_23 : j_F 129 23 = some (.aload_n 0, 1, 0, 0, .null, .int) := by decide +kernel
theorem jF_129_24 : j_F 129 24 = some (.aload_n 0, 1, 0, 0, .null, .int) := by decide +kernel
theorem jF_129_25 : j_F 129 25 = some (.getfield 15, 3, 5, 1, .null, (.array .long)) := by decide +kernel
theorem jF_129_28 : j_F 129 28 = some (.iload_n 1, 1, 0, 0, .null, .int) := by decide +kernel
theorem jF_129_29 : j_F 129 29 = some (.laload, 1, 0, 0, .null, .int) := by decide +kernel
theorem jF_129_30 : j_F 129 30 = some (.invokevirtual 126, 3, 130, 2, .null, .int) := by decide +kernel
theorem jF_129_33 : j_F 129 33 = some (.istore_n 2, 1, 0, 0, .null, .int) := by decide +kernel
theorem jF_129_34 : j_F 129 34 = some (.aload_n 0, 1, 0, 0, .null, .int) := by decide +kernel
theorem jF_129_35 : j_F 129 35 = some (.getfield 22, 3, 5, 3, .null, (.array .int)) := by decide +kernel
theorem jF_129_38 : j_F 129 38 = some (.iload_n 2, 1, 0, 0, .null, .int) := by decide +kernel
theorem jF_129_39 : j_F 129 39 = some (.iaload, 1, 0, 0, .null, .int) := by decide +kernel
theorem jF_129_40 : j_F 129 40 = some (.iconst 1, 1, 0, 0, .null, .int) := by decide +kernel
theorem jF_129_41 : j_F 129 41 = some (.isub, 1, 0, 0, .null, .int) := by decide +kernel
theorem jF_129_42 : j_F 129 42 = some (.istore_n 3, 1, 0, 0, .null, .int) := by decide +kernel
theorem jF_129_43 : j_F 129 43 = some (.iload_n 3, 1, 0, 0, .null, .int) := by decide +kernel
theorem jF_129_44 : j_F 129 44 = some (.ifCond .ge 36, 3, 80, 0, .null, .int) := by decide +kernel
theorem jF_129_47 : j_F 129 47 = some (.aload_n 0, 1, 0, 0, .null, .int) := by decide +kernel
theorem jF_129_48 : j_F 129 48 = some (.getfield 18, 3, 5, 2, .null, (.array .int)) := by decide +kernel
theorem jF_129_51 : j_F 129 51 = some (.aload_n 0, 1, 0, 0, .null, .int) := by decide +kernel
theorem jF_129_52 : j_F 129 52 = some (.getfield 123, 3, 5, 10, .null, .int) := by decide +kernel
theorem jF_129_55 : j_F 129 55 = some (.iload_n 1, 1, 0, 0, .null, .int) := by decide +kernel
theorem jF_129_56 : j_F 129 56 = some (.iastore, 1, 0, 0, .null, .int) := by decide +kernel
theorem jF_129_57 : j_F 129 57 = some (.aload_n 0, 1, 0, 0, .null, .int) := by decide +kernel
theorem jF_129_58 : j_F 129 58 = some (.dup, 1, 0, 0, .null, .int) := by decide +kernel
theorem jF_129_59 : j_F 129 59 = some (.getfield 123, 3, 5, 10, .null, .int) := by decide +kernel
theorem jF_129_62 : j_F 129 62 = some (.iconst 1, 1, 0, 0, .null, .int) := by decide +kernel
theorem jF_129_63 : j_F 129 63 = some (.iadd, 1, 0, 0, .null, .int) := by decide +kernel
theorem jF_129_64 : j_F 129 64 = some (.putfield 123, 3, 5, 10, .null, .int) := by decide +kernel
theorem jF_129_67 : j_F 129 67 = some (.aload_n 0, 1, 0, 0, .null, .int) := by decide +kernel
theorem jF_129_68 : j_F 129 68 = some (.getfield 22, 3, 5, 3, .null, (.array .int)) := by decide +kernel
theorem jF_129_71 : j_F 129 71 = some (.iload_n 2, 1, 0, 0, .null, .int) := by decide +kernel
theorem jF_129_72 : j_F 129 72 = some (.aload_n 0, 1, 0, 0, .null, .int) := by decide +kernel
theorem jF_129_73 : j_F 129 73 = some (.getfield 123, 3, 5, 10, .null, .int) := by decide +kernel
theorem jF_129_76 : j_F 129 76 = some (.iastore, 1, 0, 0, .null, .int) := by decide +kernel
theorem jF_129_77 : j_F 129 77 = some (.goto 28, 3, 105, 0, .null, .int) := by decide +kernel
theorem jF_129_80 : j_F 129 80 = some (.aload_n 0, 1, 0, 0, .null, .int) := by decide +kernel
theorem jF_129_81 : j_F 129 81 = some (.iload_n 1, 1, 0, 0, .null, .int) := by decide +kernel
theorem jF_129_82 : j_F 129 82 = some (.invokevirtual 50, 3, 131, 2, .null, .int) := by decide +kernel
theorem jF_129_85 : j_F 129 85 = some (.aload_n 0, 1, 0, 0, .null, .int) := by decide +kernel
theorem jF_129_86 : j_F 129 86 = some (.aload_n 0, 1, 0, 0, .null, .int) := by decide +kernel
theorem jF_129_87 : j_F 129 87 = some (.getfield 18, 3, 5, 2, .null, (.array .int)) := by decide +kernel
theorem jF_129_90 : j_F 129 90 = some (.iload_n 3, 1, 0, 0, .null, .int) := by decide +kernel
theorem jF_129_91 : j_F 129 91 = some (.iaload, 1, 0, 0, .null, .int) := by decide +kernel
theorem jF_129_92 : j_F 129 92 = some (.invokevirtual 50, 3, 131, 2, .null, .int) := by decide +kernel
theorem jF_129_95 : j_F 129 95 = some (.if_icmp .ge 10, 3, 105, 0, .null, .int) := by decide +kernel
theorem jF_129_98 : j_F 129 98 = some (.aload_n 0, 1, 0, 0, .null, .int) := by decide +kernel
theorem jF_129_99 : j_F 129 99 = some (.getfield 18, 3, 5, 2, .null, (.array .int)) := by decide +kernel
theorem jF_129_102 : j_F 129 102 = some (.iload_n 3, 1, 0, 0, .null, .int) := by decide +kernel
theorem jF_129_103 : j_F 129 103 = some (.iload_n 1, 1, 0, 0, .null, .int) := by decide +kernel
theorem jF_129_104 : j_F 129 104 = some (.iastore, 1, 0, 0, .null, .int) := by decide +kernel
theorem jF_129_105 : j_F 129 105 = some (.iinc 1 1, 3, 0, 0, .null, .int) := by decide +kernel
theorem jF_129_108 : j_F 129 108 = some (.goto (-93), 3, 15, 0, .null, .int) := by decide +kernel
theorem jF_129_111 : j_F 129 111 = some (.return_, 1, 0, 0, .null, .int) := by decide +kernel
theorem jF_130_0 : j_F 130 0 = some (.lload_n 1, 1, 0, 0, .null, .int) := by decide +kernel
theorem jF_130_1 : j_F 130 1 = some (.ldc2_w 129, 3, 0, 0, (.long (-7046029254386353131)), .int) := by decide +kernel
theorem jF_130_4 : j_F 130 4 = some (.lmul, 1, 0, 0, .null, .int) := by decide +kernel
theorem jF_130_5 : j_F 130 5 = some (.bipush 52, 2, 0, 0, .null, .int) := by decide +kernel
theorem jF_130_7 : j_F 130 7 = some (.lushr, 1, 0, 0, .null, .int) := by decide +kernel
theorem jF_130_8 : j_F 130 8 = some (.l2i, 1, 0, 0, .null, .int) := by decide +kernel
theorem jF_130_9 : j_F 130 9 = some (.istore_n 3, 1, 0, 0, .null, .int) := by decide +kernel
theorem jF_130_10 : j_F 130 10 = some (.iconst 0, 1, 0, 0, .null, .int) := by decide +kernel
theorem jF_130_11 : j_F 130 11 = some (.istore 4, 2, 0, 0, .null, .int) := by decide +kernel
theorem jF_130_13 : j_F 130 13 = some (.iload 4, 2, 0, 0, .null, .int) := by decide +kernel
theorem jF_130_15 : j_F 130 15 = some (.sipush 4096, 3, 0, 0, .null, .int) := by decide +kernel
theorem jF_130_18 : j_F 130 18 = some (.if_icmp .ge 51, 3, 69, 0, .null, .int) := by decide +kernel
theorem jF_130_21 : j_F 130 21 = some (.aload_n 0, 1, 0, 0, .null, .int) := by decide +kernel
theorem jF_130_22 : j_F 130 22 = some (.getfield 22, 3, 5, 3, .null, (.array .int)) := by decide +kernel
theorem jF_130_25 : j_F 130 25 = some (.iload_n 3, 1, 0, 0, .null, .int) := by decide +kernel
theorem jF_130_26 : j_F 130 26 = some (.iaload, 1, 0, 0, .null, .int) := by decide +kernel
theorem jF_130_27 : j_F 130 27 = some (.iconst 1, 1, 0, 0, .null, .int) := by decide +kernel
theorem jF_130_28 : j_F 130 28 = some (.isub, 1, 0, 0, .null, .int) := by decide +kernel
theorem jF_130_29 : j_F 130 29 = some (.istore 5, 2, 0, 0, .null, .int) := by decide +kernel
theorem jF_130_31 : j_F 130 31 = some (.iload 5, 2, 0, 0, .null, .int) := by decide +kernel
theorem jF_130_33 : j_F 130 33 = some (.ifCond .lt 20, 3, 53, 0, .null, .int) := by decide +kernel
theorem jF_130_36 : j_F 130 36 = some (.aload_n 0, 1, 0, 0, .null, .int) := by decide +kernel
theorem jF_130_37 : j_F 130 37 = some (.getfield 15, 3, 5, 1, .null, (.array .long)) := by decide +kernel
theorem jF_130_40 : j_F 130 40 = some (.aload_n 0, 1, 0, 0, .null, .int) := by decide +kernel
theorem jF_130_41 : j_F 130 41 = some (.getfield 18, 3, 5, 2, .null, (.array .int)) := by decide +kernel
theorem jF_130_44 : j_F 130 44 = some (.iload 5, 2, 0, 0, .null, .int) := by decide +kernel
theorem jF_130_46 : j_F 130 46 = some (.iaload, 1, 0, 0, .null, .int) := by decide +kernel
theorem jF_130_47 : j_F 130 47 = some (.laload, 1, 0, 0, .null, .int) := by decide +kernel
theorem jF_130_48 : j_F 130 48 = some (.lload_n 1, 1, 0, 0, .null, .int) := by decide +kernel
theorem jF_130_49 : j_F 130 49 = some (.lcmp, 1, 0, 0, .null, .int) := by decide +kernel
theorem jF_130_50 : j_F 130 50 = some (.ifCond .ne 5, 3, 55, 0, .null, .int) := by decide +kernel
theorem jF_130_53 : j_F 130 53 = some (.iload_n 3, 1, 0, 0, .null, .int) := by decide +kernel
theorem jF_130_54 : j_F 130 54 = some (.ireturn, 1, 0, 0, .null, .int) := by decide +kernel
theorem jF_130_55 : j_F 130 55 = some (.iload_n 3, 1, 0, 0, .null, .int) := by decide +kernel
theorem jF_130_56 : j_F 130 56 = some (.iconst 1, 1, 0, 0, .null, .int) := by decide +kernel
theorem jF_130_57 : j_F 130 57 = some (.iadd, 1, 0, 0, .null, .int) := by decide +kernel
theorem jF_130_58 : j_F 130 58 = some (.sipush 4096, 3, 0, 0, .null, .int) := by decide +kernel
theorem jF_130_61 : j_F 130 61 = some (.irem, 1, 0, 0, .null, .int) := by decide +kernel
theorem jF_130_62 : j_F 130 62 = some (.istore_n 3, 1, 0, 0, .null, .int) := by decide +kernel
theorem jF_130_63 : j_F 130 63 = some (.iinc 4 1, 3, 0, 0, .null, .int) := by decide +kernel
theorem jF_130_66 : j_F 130 66 = some (.goto (-53), 3, 13, 0, .null, .int) := by decide +kernel
theorem jF_130_69 : j_F 130 69 = some (.iload_n 3, 1, 0, 0, .null, .int) := by decide +kernel
theorem jF_130_70 : j_F 130 70 = some (.ireturn, 1, 0, 0, .null, .int) := by decide +kernel
theorem jF_131_0 : j_F 131 0 = some (.iload_n 1, 1, 0, 0, .null, .int) := by decide +kernel
theorem jF_131_1 : j_F 131 1 = some (.aload_n 0, 1, 0, 0, .null, .int) := by decide +kernel
theorem jF_131_2 : j_F 131 2 = some (.getfield 102, 3, 5, 8, .null, .int) := by decide +kernel
theorem jF_131_5 : j_F 131 5 = some (.if_icmp .lt 10, 3, 15, 0, .null, .int) := by decide +kernel
theorem jF_131_8 : j_F 131 8 = some (.aload_n 0, 1, 0, 0, .null, .int) := by decide +kernel
theorem jF_131_9 : j_F 131 9 = some (.getfield 102, 3, 5, 8, .null, .int) := by decide +kernel
theorem jF_131_12 : j_F 131 12 = some (.ifCond .ne 9, 3, 21, 0, .null, .int) := by decide +kernel
theorem jF_131_15 : j_F 131 15 = some (.iconst 1, 1, 0, 0, .null, .int) := by decide +kernel
theorem jF_131_16 : j_F 131 16 = some (.iload_n 1, 1, 0, 0, .null, .int) := by decide +kernel
theorem jF_131_17 : j_F 131 17 = some (.iconst 2, 1, 0, 0, .null, .int) := by decide +kernel
theorem jF_131_18 : j_F 131 18 = some (.irem, 1, 0, 0, .null, .int) := by decide +kernel
theorem jF_131_19 : j_F 131 19 = some (.iadd, 1, 0, 0, .null, .int) := by decide +kernel
theorem jF_131_20 : j_F 131 20 = some (.ireturn, 1, 0, 0, .null, .int) := by decide +kernel
theorem jF_131_21 : j_F 131 21 = some (.iload_n 1, 1, 0, 0, .null, .int) := by decide +kernel
theorem jF_131_22 : j_F 131 22 = some (.aload_n 0, 1, 0, 0, .null, .int) := by decide +kernel
theorem jF_131_23 : j_F 131 23 = some (.getfield 102, 3, 5, 8, .null, .int) := by decide +kernel
theorem jF_131_26 : j_F 131 26 = some (.isub, 1, 0, 0, .null, .int) := by decide +kernel
theorem jF_131_27 : j_F 131 27 = some (.iconst 3, 1, 0, 0, .null, .int) := by decide +kernel
theorem jF_131_28 : j_F 131 28 = some (.idiv, 1, 0, 0, .null, .int) := by decide +kernel
theorem jF_131_29 : j_F 131 29 = some (.istore_n 2, 1, 0, 0, .null, .int) := by decide +kernel
theorem jF_131_30 : j_F 131 30 = some (.iconst 3, 1, 0, 0, .null, .int) := by decide +kernel
theorem jF_131_31 : j_F 131 31 = some (.iload_n 2, 1, 0, 0, .null, .int) := by decide +kernel
theorem jF_131_32 : j_F 131 32 = some (.aload_n 0, 1, 0, 0, .null, .int) := by decide +kernel
theorem jF_131_33 : j_F 131 33 = some (.getfield 102, 3, 5, 8, .null, .int) := by decide +kernel
theorem jF_131_36 : j_F 131 36 = some (.idiv, 1, 0, 0, .null, .int) := by decide +kernel
theorem jF_131_37 : j_F 131 37 = some (.iconst 2, 1, 0, 0, .null, .int) := by decide +kernel
theorem jF_131_38 : j_F 131 38 = some (.irem, 1, 0, 0, .null, .int) := by decide +kernel
theorem jF_131_39 : j_F 131 39 = some (.iadd, 1, 0, 0, .null, .int) := by decide +kernel
theorem jF_131_40 : j_F 131 40 = some (.iload_n 2, 1, 0, 0, .null, .int) := by decide +kernel
theorem jF_131_41 : j_F 131 41 = some (.aload_n 0, 1, 0, 0, .null, .int) := by decide +kernel
theorem jF_131_42 : j_F 131 42 = some (.getfield 102, 3, 5, 8, .null, .int) := by decide +kernel
theorem jF_131_45 : j_F 131 45 = some (.irem, 1, 0, 0, .null, .int) := by decide +kernel
theorem jF_131_46 : j_F 131 46 = some (.iconst 2, 1, 0, 0, .null, .int) := by decide +kernel
theorem jF_131_47 : j_F 131 47 = some (.irem, 1, 0, 0, .null, .int) := by decide +kernel
theorem jF_131_48 : j_F 131 48 = some (.iadd, 1, 0, 0, .null, .int) := by decide +kernel
theorem jF_131_49 : j_F 131 49 = some (.ireturn, 1, 0, 0, .null, .int) := by decide +kernel
theorem jF_132_0 : j_F 132 0 = some (.aload_n 0, 1, 0, 0, .null, .int) := by decide +kernel
theorem jF_132_1 : j_F 132 1 = some (.iconst 0, 1, 0, 0, .null, .int) := by decide +kernel
theorem jF_132_2 : j_F 132 2 = some (.putfield 76, 3, 5, 11, .null, .int) := by decide +kernel
theorem jF_132_5 : j_F 132 5 = some (.aload_n 0, 1, 0, 0, .null, .int) := by decide +kernel
theorem jF_132_6 : j_F 132 6 = some (.aload_n 1, 1, 0, 0, .null, .int) := by decide +kernel
theorem jF_132_7 : j_F 132 7 = some (.getfield 112, 3, 8, 13, .null, .long) := by decide +kernel
theorem jF_132_10 : j_F 132 10 = some (.putfield 79, 3, 5, 12, .null, .long) := by decide +kernel
theorem jF_132_13 : j_F 132 13 = some (.aload_n 0, 1, 0, 0, .null, .int) := by decide +kernel
theorem jF_132_14 : j_F 132 14 = some (.lconst 0, 1, 0, 0, .null, .int) := by decide +kernel
theorem jF_132_15 : j_F 132 15 = some (.putfield 83, 3, 5, 13, .null, .long) := by decide +kernel
theorem jF_132_18 : j_F 132 18 = some (.iconst 0, 1, 0, 0, .null, .int) := by decide +kernel
theorem jF_132_19 : j_F 132 19 = some (.istore_n 2, 1, 0, 0, .null, .int) := by decide +kernel
theorem jF_132_20 : j_F 132 20 = some (.iload_n 2, 1, 0, 0, .null, .int) := by decide +kernel
theorem jF_132_21 : j_F 132 21 = some (.aload_n 0, 1, 0, 0, .null, .int) := by decide +kernel
theorem jF_132_22 : j_F 132 22 = some (.getfield 46, 3, 5, 9, .null, .int) := by decide +kernel
theorem jF_132_25 : j_F 132 25 = some (.if_icmp .ge 65, 3, 90, 0, .null, .int) := by decide +kernel
theorem jF_132_28 : j_F 132 28 = some (.aload_n 1, 1, 0, 0, .null, .int) := by decide +kernel
theorem jF_132_29 : j_F 132 29 = some (.getfield 60, 3, 8, 8, .null, (.object "HundredWords$Told")) := by decide +kernel
theorem jF_132_32 : j_F 132 32 = some (.aload_n 0, 1, 0, 0, .null, .int) := by decide +kernel
theorem jF_132_33 : j_F 132 33 = some (.getfield 15, 3, 5, 1, .null, (.array .long)) := by decide +kernel
theorem jF_132_36 : j_F 132 36 = some (.iload_n 2, 1, 0, 0, .null, .int) := by decide +kernel
theorem jF_132_37 : j_F 132 37 = some (.laload, 1, 0, 0, .null, .int) := by decide +kernel
theorem jF_132_38 : j_F 132 38 = some (.invokevirtual 66, 3, 86, 2, .null, .int) := by decide +kernel
theorem jF_132_41 : j_F 132 41 = some (.ifCond .eq 43, 3, 84, 0, .null, .int) := by decide +kernel
theorem jF_132_44 : j_F 132 44 = some (.aload_n 0, 1, 0, 0, .null, .int) := by decide +kernel
theorem jF_132_45 : j_F 132 45 = some (.dup, 1, 0, 0, .null, .int) := by decide +kernel
theorem jF_132_46 : j_F 132 46 = some (.getfield 76, 3, 5, 11, .null, .int) := by decide +kernel
theorem jF_132_49 : j_F 132 49 = some (.iconst 1, 1, 0, 0, .null, .int) := by decide +kernel
theorem jF_132_50 : j_F 132 50 = some (.iadd, 1, 0, 0, .null, .int) := by decide +kernel
theorem jF_132_51 : j_F 132 51 = some (.putfield 76, 3, 5, 11, .null, .int) := by decide +kernel
theorem jF_132_54 : j_F 132 54 = some (.aload_n 0, 1, 0, 0, .null, .int) := by decide +kernel
theorem jF_132_55 : j_F 132 55 = some (.dup, 1, 0, 0, .null, .int) := by decide +kernel
theorem jF_132_56 : j_F 132 56 = some (.getfield 79, 3, 5, 12, .null, .long) := by decide +kernel
theorem jF_132_59 : j_F 132 59 = some (.aload_n 0, 1, 0, 0, .null, .int) := by decide +kernel
theorem jF_132_60 : j_F 132 60 = some (.getfield 15, 3, 5, 1, .null, (.array .long)) := by decide +kernel
theorem jF_132_63 : j_F 132 63 = some (.iload_n 2, 1, 0, 0, .null, .int) := by decide +kernel
theorem jF_132_64 : j_F 132 64 = some (.laload, 1, 0, 0, .null, .int) := by decide +kernel
theorem jF_132_65 : j_F 132 65 = some (.land, 1, 0, 0, .null, .int) := by decide +kernel
theorem jF_132_66 : j_F 132 66 = some (.putfield 79, 3, 5, 12, .null, .long) := by decide +kernel
theorem jF_132_69 : j_F 132 69 = some (.aload_n 0, 1, 0, 0, .null, .int) := by decide +kernel
theorem jF_132_70 : j_F 132 70 = some (.dup, 1, 0, 0, .null, .int) := by decide +kernel
theorem jF_132_71 : j_F 132 71 = some (.getfield 83, 3, 5, 13, .null, .long) := by decide +kernel
theorem jF_132_74 : j_F 132 74 = some (.aload_n 0, 1, 0, 0, .null, .int) := by decide +kernel
theorem jF_132_75 : j_F 132 75 = some (.getfield 15, 3, 5, 1, .null, (.array .long)) := by decide +kernel
theorem jF_132_78 : j_F 132 78 = some (.iload_n 2, 1, 0, 0, .null, .int) := by decide +kernel
theorem jF_132_79 : j_F 132 79 = some (.laload, 1, 0, 0, .null, .int) := by decide +kernel
theorem jF_132_80 : j_F 132 80 = some (.lor, 1, 0, 0, .null, .int) := by decide +kernel
theorem jF_132_81 : j_F 132 81 = some (.putfield 83, 3, 5, 13, .null, .long) := by decide +kernel
theorem jF_132_84 : j_F 132 84 = some (.iinc 2 1, 3, 0, 0, .null, .int) := by decide +kernel
theorem jF_132_87 : j_F 132 87 = some (.goto (-67), 3, 20, 0, .null, .int) := by decide +kernel
theorem jF_132_90 : j_F 132 90 = some (.return_, 1, 0, 0, .null, .int) := by decide +kernel
theorem jF_133_0 : j_F 133 0 = some (.lload_n 1, 1, 0, 0, .null, .int) := by decide +kernel
theorem jF_133_1 : j_F 133 1 = some (.lconst 0, 1, 0, 0, .null, .int) := by decide +kernel
theorem jF_133_2 : j_F 133 2 = some (.lcmp, 1, 0, 0, .null, .int) := by decide +kernel
theorem jF_133_3 : j_F 133 3 = some (.ifCond .ne 13, 3, 16, 0, .null, .int) := by decide +kernel
theorem jF_133_6 : j_F 133 6 = some (.aload_n 0, 1, 0, 0, .null, .int) := by decide +kernel
theorem jF_133_7 : j_F 133 7 = some (.iload_n 3, 1, 0, 0, .null, .int) := by decide +kernel
theorem jF_133_8 : j_F 133 8 = some (.iconst 0, 1, 0, 0, .null, .int) := by decide +kernel
theorem jF_133_9 : j_F 133 9 = some (.iconst 0, 1, 0, 0, .null, .int) := by decide +kernel
theorem jF_133_10 : j_F 133 10 = some (.iconst (-1), 1, 0, 0, .null, .int) := by decide +kernel
theorem jF_133_11 : j_F 133 11 = some (.iconst (-1), 1, 0, 0, .null, .int) := by decide +kernel
theorem jF_133_12 : j_F 133 12 = some (.invokevirtual 131, 3, 134, 6, .null, .int) := by decide +kernel
theorem jF_133_15 : j_F 133 15 = some (.return_, 1, 0, 0, .null, .int) := by decide +kernel
theorem jF_133_16 : j_F 133 16 = some (.aload_n 0, 1, 0, 0, .null, .int) := by decide +kernel
theorem jF_133_17 : j_F 133 17 = some (.getfield 22, 3, 5, 3, .null, (.array .int)) := by decide +kernel
theorem jF_133_20 : j_F 133 20 = some (.aload_n 0, 1, 0, 0, .null, .int) := by decide +kernel
theorem jF_133_21 : j_F 133 21 = some (.lload_n 1, 1, 0, 0, .null, .int) := by decide +kernel
theorem jF_133_22 : j_F 133 22 = some (.invokevirtual 126, 3, 130, 2, .null, .int) := by decide +kernel
theorem jF_133_25 : j_F 133 25 = some (.iaload, 1, 0, 0, .null, .int) := by decide +kernel
theorem jF_133_26 : j_F 133 26 = some (.iconst 1, 1, 0, 0, .null, .int) := by decide +kernel
theorem jF_133_27 : j_F 133 27 = some (.isub, 1, 0, 0, .null, .int) := by decide +kernel
theorem jF_133_28 : j_F 133 28 = some (.istore 4, 2, 0, 0, .null, .int) := by decide +kernel
theorem jF_133_30 : j_F 133 30 = some (.iload 4, 2, 0, 0, .null, .int) := by decide +kernel
theorem jF_133_32 : j_F 133 32 = some (.ifCond .ge 15, 3, 47, 0, .null, .int) := by decide +kernel
theorem jF_133_35 : j_F 133 35 = some (.aload_n 0, 1, 0, 0, .null, .int) := by decide +kernel
theorem jF_133_36 : j_F 133 36 = some (.iload_n 3, 1, 0, 0, .null, .int) := by decide +kernel
theorem jF_133_37 : j_F 133 37 = some (.iconst (-1), 1, 0, 0, .null, .int) := by decide +kernel
theorem jF_133_38 : j_F 133 38 = some (.iconst (-1), 1, 0, 0, .null, .int) := by decide +kernel
theorem jF_133_39 : j_F 133 39 = some (.iconst (-1), 1, 0, 0, .null, .int) := by decide +kernel
theorem jF_133_40 : j_F 133 40 = some (.iconst (-1), 1, 0, 0, .null, .int) := by decide +kernel
theorem jF_133_41 : j_F 133 41 = some (.invokevirtual 131, 3, 134, 6, .null, .int) := by decide +kernel
theorem jF_133_44 : j_F 133 44 = some (.goto 28, 3, 72, 0, .null, .int) := by decide +kernel
theorem jF_133_47 : j_F 133 47 = some (.aload_n 0, 1, 0, 0, .null, .int) := by decide +kernel
theorem jF_133_48 : j_F 133 48 = some (.iload_n 3, 1, 0, 0, .null, .int) := by decide +kernel
theorem jF_133_49 : j_F 133 49 = some (.aload_n 0, 1, 0, 0, .null, .int) := by decide +kernel
theorem jF_133_50 : j_F 133 50 = some (.aload_n 0, 1, 0, 0, .null, .int) := by decide +kernel
theorem jF_133_51 : j_F 133 51 = some (.getfield 18, 3, 5, 2, .null, (.array .int)) := by decide +kernel
theorem jF_133_54 : j_F 133 54 = some (.iload 4, 2, 0, 0, .null, .int) := by decide +kernel
theorem jF_133_56 : j_F 133 56 = some (.iaload, 1, 0, 0, .null, .int) := by decide +kernel
theorem jF_133_57 : j_F 133 57 = some (.invokevirtual 50, 3, 131, 2, .null, .int) := by decide +kernel
theorem jF_133_60 : j_F 133 60 = some (.iconst 1, 1, 0, 0, .null, .int) := by decide +kernel
theorem jF_133_61 : j_F 133 61 = some (.aload_n 0, 1, 0, 0, .null, .int) := by decide +kernel
theorem jF_133_62 : j_F 133 62 = some (.getfield 18, 3, 5, 2, .null, (.array .int)) := by decide +kernel
theorem jF_133_65 : j_F 133 65 = some (.iload 4, 2, 0, 0, .null, .int) := by decide +kernel
theorem jF_133_67 : j_F 133 67 = some (.iaload, 1, 0, 0, .null, .int) := by decide +kernel
theorem jF_133_68 : j_F 133 68 = some (.iconst (-1), 1, 0, 0, .null, .int) := by decide +kernel
theorem jF_133_69 : j_F 133 69 = some (.invokevirtual 131, 3, 134, 6, .null, .int) := by decide +kernel
theorem jF_133_72 : j_F 133 72 = some (.aload_n 0, 1, 0, 0, .null, .int) := by decide +kernel
theorem jF_133_73 : j_F 133 73 = some (.lload_n 1, 1, 0, 0, .null, .int) := by decide +kernel
theorem jF_133_74 : j_F 133 74 = some (.iload_n 3, 1, 0, 0, .null, .int) := by decide +kernel
theorem jF_133_75 : j_F 133 75 = some (.invokevirtual 135, 3, 135, 3, .null, .int) := by decide +kernel
theorem jF_133_78 : j_F 133 78 = some (.return_, 1, 0, 0, .null, .int) := by decide +kernel
theorem jF_134_0 : j_F 134 0 = some (.aload_n 0, 1, 0, 0, .null, .int) := by decide +kernel
theorem jF_134_1 : j_F 134 1 = some (.getfield 35, 3, 5, 7, .null, (.array .int)) := by decide +kernel
theorem jF_134_4 : j_F 134 4 = some (.iload_n 1, 1, 0, 0, .null, .int) := by decide +kernel
theorem jF_134_5 : j_F 134 5 = some (.iload_n 2, 1, 0, 0, .null, .int) := by decide +kernel
theorem jF_134_6 : j_F 134 6 = some (.iastore, 1, 0, 0, .null, .int) := by decide +kernel
theorem jF_134_7 : j_F 134 7 = some (.aload_n 0, 1, 0, 0, .null, .int) := by decide +kernel
theorem jF_134_8 : j_F 134 8 = some (.getfield 35, 3, 5, 7, .null, (.array .int)) := by decide +kernel
theorem jF_134_11 : j_F 134 11 = some (.iload_n 1, 1, 0, 0, .null, .int) := by decide +kernel
theorem jF_134_12 : j_F 134 12 = some (.iconst 1, 1, 0, 0, .null, .int) := by decide +kernel
theorem jF_134_13 : j_F 134 13 = some (.iadd, 1, 0, 0, .null, .int) := by decide +kernel
theorem jF_134_14 : j_F 134 14 = some (.iload_n 3, 1, 0, 0, .null, .int) := by decide +kernel
theorem jF_134_15 : j_F 134 15 = some (.iastore, 1, 0, 0, .null, .int) := by decide +kernel
theorem jF_134_16 : j_F 134 16 = some (.aload_n 0, 1, 0, 0, .null, .int) := by decide +kernel
theorem jF_134_17 : j_F 134 17 = some (.getfield 35, 3, 5, 7, .null, (.array .int)) := by decide +kernel
theorem jF_134_20 : j_F 134 20 = some (.iload_n 1, 1, 0, 0, .null, .int) := by decide +kernel
theorem jF_134_21 : j_F 134 21 = some (.iconst 2, 1, 0, 0, .null, .int) := by decide +kernel
theorem jF_134_22 : j_F 134 22 = some (.iadd, 1, 0, 0, .null, .int) := by decide +kernel
theorem jF_134_23 : j_F 134 23 = some (.iload 4, 2, 0, 0, .null, .int) := by decide +kernel
theorem jF_134_25 : j_F 134 25 = some (.iastore, 1, 0, 0, .null, .int) := by decide +kernel
theorem jF_134_26 : j_F 134 26 = some (.aload_n 0, 1, 0, 0, .null, .int) := by decide +kernel
theorem jF_134_27 : j_F 134 27 = some (.getfield 35, 3, 5, 7, .null, (.array .int)) := by decide +kernel
theorem jF_134_30 : j_F 134 30 = some (.iload_n 1, 1, 0, 0, .null, .int) := by decide +kernel
theorem jF_134_31 : j_F 134 31 = some (.iconst 3, 1, 0, 0, .null, .int) := by decide +kernel
theorem jF_134_32 : j_F 134 32 = some (.iadd, 1, 0, 0, .null, .int) := by decide +kernel
theorem jF_134_33 : j_F 134 33 = some (.iload 5, 2, 0, 0, .null, .int) := by decide +kernel
theorem jF_134_35 : j_F 134 35 = some (.iastore, 1, 0, 0, .null, .int) := by decide +kernel
theorem jF_134_36 : j_F 134 36 = some (.return_, 1, 0, 0, .null, .int) := by decide +kernel
theorem jF_135_0 : j_F 135 0 = some (.aload_n 0, 1, 0, 0, .null, .int) := by decide +kernel
theorem jF_135_1 : j_F 135 1 = some (.lload_n 1, 1, 0, 0, .null, .int) := by decide +kernel
theorem jF_135_2 : j_F 135 2 = some (.invokevirtual 138, 3, 136, 2, .null, .int) := by decide +kernel
theorem jF_135_5 : j_F 135 5 = some (.istore 4, 2, 0, 0, .null, .int) := by decide +kernel
theorem jF_135_7 : j_F 135 7 = some (.lload_n 1, 1, 0, 0, .null, .int) := by decide +kernel
theorem jF_135_8 : j_F 135 8 = some (.lload_n 1, 1, 0, 0, .null, .int) := by decide +kernel
theorem jF_135_9 : j_F 135 9 = some (.lneg, 1, 0, 0, .null, .int) := by decide +kernel
theorem jF_135_10 : j_F 135 10 = some (.land, 1, 0, 0, .null, .int) := by decide +kernel
theorem jF_135_11 : j_F 135 11 = some (.lstore 5, 2, 0, 0, .null, .int) := by decide +kernel
theorem jF_135_13 : j_F 135 13 = some (.iconst 0, 1, 0, 0, .null, .int) := by decide +kernel
theorem jF_135_14 : j_F 135 14 = some (.istore 7, 2, 0, 0, .null, .int) := by decide +kernel
theorem jF_135_16 : j_F 135 16 = some (.iload 7, 2, 0, 0, .null, .int) := by decide +kernel
theorem jF_135_18 : j_F 135 18 = some (.iload 4, 2, 0, 0, .null, .int) := by decide +kernel
theorem jF_135_20 : j_F 135 20 = some (.if_icmp .ge 101, 3, 121, 0, .null, .int) := by decide +kernel
theorem jF_135_23 : j_F 135 23 = some (.lload_n 1, 1, 0, 0, .null, .int) := by decide +kernel
theorem jF_135_24 : j_F 135 24 = some (.aload_n 0, 1, 0, 0, .null, .int) := by decide +kernel
theorem jF_135_25 : j_F 135 25 = some (.getfield 15, 3, 5, 1, .null, (.array .long)) := by decide +kernel
theorem jF_135_28 : j_F 135 28 = some (.aload_n 0, 1, 0, 0, .null, .int) := by decide +kernel
theorem jF_135_29 : j_F 135 29 = some (.getfield 25, 3, 5, 4, .null, (.array .int)) := by decide +kernel
theorem jF_135_32 : j_F 135 32 = some (.iload 7, 2, 0, 0, .null, .int) := by decide +kernel
theorem jF_135_34 : j_F 135 34 = some (.iaload, 1, 0, 0, .null, .int) := by decide +kernel
theorem jF_135_35 : j_F 135 35 = some (.laload, 1, 0, 0, .null, .int) := by decide +kernel
theorem jF_135_36 : j_F 135 36 = some (.ldc2_w 115, 3, 0, 0, (.long (-1)), .int) := by decide +kernel
theorem jF_135_39 : j_F 135 39 = some (.lxor, 1, 0, 0, .null, .int) := by decide +kernel
theorem jF_135_40 : j_F 135 40 = some (.land, 1, 0, 0, .null, .int) := by decide +kernel
theorem jF_135_41 : j_F 135 41 = some (.lstore 8, 2, 0, 0, .null, .int) := by decide +kernel
theorem jF_135_43 : j_F 135 43 = some (.lload 8, 2, 0, 0, .null, .int) := by decide +kernel
theorem jF_135_45 : j_F 135 45 = some (.lload 5, 2, 0, 0, .null, .int) := by decide +kernel
theorem jF_135_47 : j_F 135 47 = some (.land, 1, 0, 0, .null, .int) := by decide +kernel
theorem jF_135_48 : j_F 135 48 = some (.lconst 0, 1, 0, 0, .null, .int) := by decide +kernel
theorem jF_135_49 : j_F 135 49 = some (.lcmp, 1, 0, 0, .null, .int) := by decide +kernel
theorem jF_135_50 : j_F 135 50 = some (.ifCond .eq 6, 3, 56, 0, .null, .int) := by decide +kernel
theorem jF_135_53 : j_F 135 53 = some (.goto 62, 3, 115, 0, .null, .int) := by decide +kernel
theorem jF_135_56 : j_F 135 56 = some (.iconst 0, 1, 0, 0, .null, .int) := by decide +kernel
theorem jF_135_57 : j_F 135 57 = some (.istore 10, 2, 0, 0, .null, .int) := by decide +kernel
theorem jF_135_59 : j_F 135 59 = some (.iload 10, 2, 0, 0, .null, .int) := by decide +kernel
theorem jF_135_61 : j_F 135 61 = some (.iload 4, 2, 0, 0, .null, .int) := by decide +kernel
theorem jF_135_63 : j_F 135 63 = some (.if_icmp .ge 52, 3, 115, 0, .null, .int) := by decide +kernel
theorem jF_135_66 : j_F 135 66 = some (.lload 8, 2, 0, 0, .null, .int) := by decide +kernel
theorem jF_135_68 : j_F 135 68 = some (.aload_n 0, 1, 0, 0, .null, .int) := by decide +kernel
theorem jF_135_69 : j_F 135 69 = some (.getfield 15, 3, 5, 1, .null, (.array .long)) := by decide +kernel
theorem jF_135_72 : j_F 135 72 = some (.aload_n 0, 1, 0, 0, .null, .int) := by decide +kernel
theorem jF_135_73 : j_F 135 73 = some (.getfield 25, 3, 5, 4, .null, (.array .int)) := by decide +kernel
theorem jF_135_76 : j_F 135 76 = some (.iload 10, 2, 0, 0, .null, .int) := by decide +kernel
theorem jF_135_78 : j_F 135 78 = some (.iaload, 1, 0, 0, .null, .int) := by decide +kernel
theorem jF_135_79 : j_F 135 79 = some (.laload, 1, 0, 0, .null, .int) := by decide +kernel
theorem jF_135_80 : j_F 135 80 = some (.ldc2_w 115, 3, 0, 0, (.long (-1)), .int) := by decide +kernel
theorem jF_135_83 : j_F 135 83 = some (.lxor, 1, 0, 0, .null, .int) := by decide +kernel
theorem jF_135_84 : j_F 135 84 = some (.land, 1, 0, 0, .null, .int) := by decide +kernel
theorem jF_135_85 : j_F 135 85 = some (.lconst 0, 1, 0, 0, .null, .int) := by decide +kernel
theorem jF_135_86 : j_F 135 86 = some (.lcmp, 1, 0, 0, .null, .int) := by decide +kernel
theorem jF_135_87 : j_F 135 87 = some (.ifCond .ne 22, 3, 109, 0, .null, .int) := by decide +kernel
theorem jF_135_90 : j_F 135 90 = some (.aload_n 0, 1, 0, 0, .null, .int) := by decide +kernel
theorem jF_135_91 : j_F 135 91 = some (.aload_n 0, 1, 0, 0, .null, .int) := by decide +kernel
theorem jF_135_92 : j_F 135 92 = some (.getfield 25, 3, 5, 4, .null, (.array .int)) := by decide +kernel
theorem jF_135_95 : j_F 135 95 = some (.iload 7, 2, 0, 0, .null, .int) := by decide +kernel
theorem jF_135_97 : j_F 135 97 = some (.iaload, 1, 0, 0, .null, .int) := by decide +kernel
theorem jF_135_98 : j_F 135 98 = some (.aload_n 0, 1, 0, 0, .null, .int) := by decide +kernel
theorem jF_135_99 : j_F 135 99 = some (.getfield 25, 3, 5, 4, .null, (.array .int)) := by decide +kernel
theorem jF_135_102 : j_F 135 102 = some (.iload 10, 2, 0, 0, .null, .int) := by decide +kernel
theorem jF_135_104 : j_F 135 104 = some (.iaload, 1, 0, 0, .null, .int) := by decide +kernel
theorem jF_135_105 : j_F 135 105 = some (.iload_n 3, 1, 0, 0, .null, .int) := by decide +kernel
theorem jF_135_106 : j_F 135 106 = some (.invokevirtual 141, 3, 137, 4, .null, .int) := by decide +kernel
theorem jF_135_109 : j_F 135 109 = some (.iinc 10 1, 3, 0, 0, .null, .int) := by decide +kernel
theorem jF_135_112 : j_F 135 112 = some (.goto (-53), 3, 59, 0, .null, .int) := by decide +kernel
theorem jF_135_115 : j_F 135 115 = some (.iinc 7 1, 3, 0, 0, .null, .int) := by decide +kernel
theorem jF_135_118 : j_F 135 118 = some (.goto (-102), 3, 16, 0, .null, .int) := by decide +kernel
theorem jF_135_121 : j_F 135 121 = some (.return_, 1, 0, 0, .null, .int) := by decide +kernel
theorem jF_136_0 : j_F 136 0 = some (.iconst 0, 1, 0, 0, .null, .int) := by decide +kernel
theorem jF_136_1 : j_F 136 1 = some (.istore_n 3, 1, 0, 0, .null, .int) := by decide +kernel
theorem jF_136_2 : j_F 136 2 = some (.iconst 0, 1, 0, 0, .null, .int) := by decide +kernel
theorem jF_136_3 : j_F 136 3 = some (.istore 4, 2, 0, 0, .null, .int) := by decide +kernel
theorem jF_136_5 : j_F 136 5 = some (.iload 4, 2, 0, 0, .null, .int) := by decide +kernel
theorem jF_136_7 : j_F 136 7 = some (.aload_n 0, 1, 0, 0, .null, .int) := by decide +kernel
theorem jF_136_8 : j_F 136 8 = some (.getfield 123, 3, 5, 10, .null, .int) := by decide +kernel
theorem jF_136_11 : j_F 136 11 = some (.if_icmp .ge 66, 3, 77, 0, .null, .int) := by decide +kernel
theorem jF_136_14 : j_F 136 14 = some (.aload_n 0, 1, 0, 0, .null, .int) := by decide +kernel
theorem jF_136_15 : j_F 136 15 = some (.getfield 15, 3, 5, 1, .null, (.array .long)) := by decide +kernel
theorem jF_136_18 : j_F 136 18 = some (.aload_n 0, 1, 0, 0, .null, .int) := by decide +kernel
theorem jF_136_19 : j_F 136 19 = some (.getfield 18, 3, 5, 2, .null, (.array .int)) := by decide +kernel
theorem jF_136_22 : j_F 136 22 = some (.iload 4, 2, 0, 0, .null, .int) := by decide +kernel
theorem jF_136_24 : j_F 136 24 = some (.iaload, 1, 0, 0, .null, .int) := by decide +kernel
theorem jF_136_25 : j_F 136 25 = some (.laload, 1, 0, 0, .null, .int) := by decide +kernel
theorem jF_136_26 : j_F 136 26 = some (.lstore 5, 2, 0, 0, .null, .int) := by decide +kernel
theorem jF_136_28 : j_F 136 28 = some (.lload 5, 2, 0, 0, .null, .int) := by decide +kernel
theorem jF_136_30 : j_F 136 30 = some (.lconst 0, 1, 0, 0, .null, .int) := by decide +kernel
theorem jF_136_31 : j_F 136 31 = some (.lcmp, 1, 0, 0, .null, .int) := by decide +kernel
theorem jF_136_32 : j_F 136 32 = some (.ifCond .eq 39, 3, 71, 0, .null, .int) := by decide +kernel
theorem jF_136_35 : j_F 136 35 = some (.lload 5, 2, 0, 0, .null, .int) := by decide +kernel
theorem jF_136_37 : j_F 136 37 = some (.lload_n 1, 1, 0, 0, .null, .int) := by decide +kernel
theorem jF_136_38 : j_F 136 38 = some (.lcmp, 1, 0, 0, .null, .int) := by decide +kernel
theorem jF_136_39 : j_F 136 39 = some (.ifCond .eq 32, 3, 71, 0, .null, .int) := by decide +kernel
theorem jF_136_42 : j_F 136 42 = some (.lload 5, 2, 0, 0, .null, .int) := by decide +kernel
theorem jF_136_44 : j_F 136 44 = some (.lload_n 1, 1, 0, 0, .null, .int) := by decide +kernel
theorem jF_136_45 : j_F 136 45 = some (.ldc2_w 115, 3, 0, 0, (.long (-1)), .int) := by decide +kernel
theorem jF_136_48 : j_F 136 48 = some (.lxor, 1, 0, 0, .null, .int) := by decide +kernel
theorem jF_136_49 : j_F 136 49 = some (.land, 1, 0, 0, .null, .int) := by decide +kernel
theorem jF_136_50 : j_F 136 50 = some (.lconst 0, 1, 0, 0, .null, .int) := by decide +kernel
theorem jF_136_51 : j_F 136 51 = some (.lcmp, 1, 0, 0, .null, .int) := by decide +kernel
theorem jF_136_52 : j_F 136 52 = some (.ifCond .ne 19, 3, 71, 0, .null, .int) := by decide +kernel
theorem jF_136_55 : j_F 136 55 = some (.aload_n 0, 1, 0, 0, .null, .int) := by decide +kernel
theorem jF_136_56 : j_F 136 56 = some (.getfield 25, 3, 5, 4, .null, (.array .int)) := by decide +kernel
theorem jF_136_59 : j_F 136 59 = some (.iload_n 3, 1, 0, 0, .null, .int) := by decide +kernel
theorem jF_136_60 : j_F 136 60 = some (.aload_n 0, 1, 0, 0, .null, .int) := by decide +kernel
theorem jF_136_61 : j_F 136 61 = some (.getfield 18, 3, 5, 2, .null, (.array .int)) := by decide +kernel
theorem jF_136_64 : j_F 136 64 = some (.iload 4, 2, 0, 0, .null, .int) := by decide +kernel
theorem jF_136_66 : j_F 136 66 = some (.iaload, 1, 0, 0, .null, .int) := by decide +kernel
theorem jF_136_67 : j_F 136 67 = some (.iastore, 1, 0, 0, .null, .int) := by decide +kernel
theorem jF_136_68 : j_F 136 68 = some (.iinc 3 1, 3, 0, 0, .null, .int) := by decide +kernel
theorem jF_136_71 : j_F 136 71 = some (.iinc 4 1, 3, 0, 0, .null, .int) := by decide +kernel
theorem jF_136_74 : j_F 136 74 = some (.goto (-69), 3, 5, 0, .null, .int) := by decide +kernel
theorem jF_136_77 : j_F 136 77 = some (.iload_n 3, 1, 0, 0, .null, .int) := by decide +kernel
theorem jF_136_78 : j_F 136 78 = some (.ireturn, 1, 0, 0, .null, .int) := by decide +kernel
theorem jF_137_0 : j_F 137 0 = some (.aload_n 0, 1, 0, 0, .null, .int) := by decide +kernel
theorem jF_137_1 : j_F 137 1 = some (.iload_n 1, 1, 0, 0, .null, .int) := by decide +kernel
theorem jF_137_2 : j_F 137 2 = some (.invokevirtual 50, 3, 131, 2, .null, .int) := by decide +kernel
theorem jF_137_5 : j_F 137 5 = some (.aload_n 0, 1, 0, 0, .null, .int) := by decide +kernel
theorem jF_137_6 : j_F 137 6 = some (.iload_n 2, 1, 0, 0, .null, .int) := by decide +kernel
theorem jF_137_7 : j_F 137 7 = some (.invokevirtual 50, 3, 131, 2, .null, .int) := by decide +kernel
theorem jF_137_10 : j_F 137 10 = some (.iadd, 1, 0, 0, .null, .int) := by decide +kernel
theorem jF_137_11 : j_F 137 11 = some (.istore 4, 2, 0, 0, .null, .int) := by decide +kernel
theorem jF_137_13 : j_F 137 13 = some (.iload_n 1, 1, 0, 0, .null, .int) := by decide +kernel
theorem jF_137_14 : j_F 137 14 = some (.iload_n 2, 1, 0, 0, .null, .int) := by decide +kernel
theorem jF_137_15 : j_F 137 15 = some (.invokestatic 145, 3, 138, 2, .null, .int) := by decide +kernel
theorem jF_137_18 : j_F 137 18 = some (.istore 5, 2, 0, 0, .null, .int) := by decide +kernel
theorem jF_137_20 : j_F 137 20 = some (.iload_n 1, 1, 0, 0, .null, .int) := by decide +kernel
theorem jF_137_21 : j_F 137 21 = some (.iload_n 2, 1, 0, 0, .null, .int) := by decide +kernel
theorem jF_137_22 : j_F 137 22 = some (.invokestatic 151, 3, 139, 2, .null, .int) := by decide +kernel
theorem jF_137_25 : j_F 137 25 = some (.istore 6, 2, 0, 0, .null, .int) := by decide +kernel
theorem jF_137_27 : j_F 137 27 = some (.aload_n 0, 1, 0, 0, .null, .int) := by decide +kernel
theorem jF_137_28 : j_F 137 28 = some (.getfield 35, 3, 5, 7, .null, (.array .int)) := by decide +kernel
theorem jF_137_31 : j_F 137 31 = some (.iload_n 3, 1, 0, 0, .null, .int) := by decide +kernel
theorem jF_137_32 : j_F 137 32 = some (.iaload, 1, 0, 0, .null, .int) := by decide +kernel
theorem jF_137_33 : j_F 137 33 = some (.iconst (-1), 1, 0, 0, .null, .int) := by decide +kernel
theorem jF_137_34 : j_F 137 34 = some (.if_icmp .eq 14, 3, 48, 0, .null, .int) := by decide +kernel
theorem jF_137_37 : j_F 137 37 = some (.iload 4, 2, 0, 0, .null, .int) := by decide +kernel
theorem jF_137_39 : j_F 137 39 = some (.aload_n 0, 1, 0, 0, .null, .int) := by decide +kernel
theorem jF_137_40 : j_F 137 40 = some (.getfield 35, 3, 5, 7, .null, (.array .int)) := by decide +kernel
theorem jF_137_43 : j_F 137 43 = some (.iload_n 3, 1, 0, 0, .null, .int) := by decide +kernel
theorem jF_137_44 : j_F 137 44 = some (.iaload, 1, 0, 0, .null, .int) := by decide +kernel
theorem jF_137_45 : j_F 137 45 = some (.if_icmp .ge 7, 3, 52, 0, .null, .int) := by decide +kernel
theorem jF_137_48 : j_F 137 48 = some (.iconst 1, 1, 0, 0, .null, .int) := by decide +kernel
theorem jF_137_49 : j_F 137 49 = some (.goto 4, 3, 53, 0, .null, .int) := by decide +kernel
theorem jF_137_52 : j_F 137 52 = some (.iconst 0, 1, 0, 0, .null, .int) := by decide +kernel
theorem jF_137_53 : j_F 137 53 = some (.istore 7, 2, 0, 0, .null, .int) := by decide +kernel
theorem jF_137_55 : j_F 137 55 = some (.iload 4, 2, 0, 0, .null, .int) := by decide +kernel
theorem jF_137_57 : j_F 137 57 = some (.aload_n 0, 1, 0, 0, .null, .int) := by decide +kernel
theorem jF_137_58 : j_F 137 58 = some (.getfield 35, 3, 5, 7, .null, (.array .int)) := by decide +kernel
theorem jF_137_61 : j_F 137 61 = some (.iload_n 3, 1, 0, 0, .null, .int) := by decide +kernel
theorem jF_137_62 : j_F 137 62 = some (.iaload, 1, 0, 0, .null, .int) := by decide +kernel
theorem jF_137_63 : j_F 137 63 = some (.if_icmp .ne 61, 3, 124, 0, .null, .int) := by decide +kernel
theorem jF_137_66 : j_F 137 66 = some (.aload_n 0, 1, 0, 0, .null, .int) := by decide +kernel
theorem jF_137_67 : j_F 137 67 = some (.getfield 35, 3, 5, 7, .null, (.array .int)) := by decide +kernel
theorem jF_137_70 : j_F 137 70 = some (.iload_n 3, 1, 0, 0, .null, .int) := by decide +kernel
theorem jF_137_71 : j_F 137 71 = some (.iconst 1, 1, 0, 0, .null, .int) := by decide +kernel
theorem jF_137_72 : j_F 137 72 = some (.iadd, 1, 0, 0, .null, .int) := by decide +kernel
theorem jF_137_73 : j_F 137 73 = some (.iaload, 1, 0, 0, .null, .int) := by decide +kernel
theorem jF_137_74 : j_F 137 74 = some (.iconst 2, 1, 0, 0, .null, .int) := by decide +kernel
theorem jF_137_75 : j_F 137 75 = some (.if_icmp .ne 49, 3, 124, 0, .null, .int) := by decide +kernel
theorem jF_137_78 : j_F 137 78 = some (.iload 5, 2, 0, 0, .null, .int) := by decide +kernel
theorem jF_137_80 : j_F 137 80 = some (.aload_n 0, 1, 0, 0, .null, .int) := by decide +kernel
theorem jF_137_81 : j_F 137 81 = some (.getfield 35, 3, 5, 7, .null, (.array .int)) := by decide +kernel
theorem jF_137_84 : j_F 137 84 = some (.iload_n 3, 1, 0, 0, .null, .int) := by decide +kernel
theorem jF_137_85 : j_F 137 85 = some (.iconst 2, 1, 0, 0, .null, .int) := by decide +kernel
theorem jF_137_86 : j_F 137 86 = some (.iadd, 1, 0, 0, .null, .int) := by decide +kernel
theorem jF_137_87 : j_F 137 87 = some (.iaload, 1, 0, 0, .null, .int) := by decide +kernel
theorem jF_137_88 : j_F 137 88 = some (.if_icmp .lt 29, 3, 117, 0, .null, .int) := by decide +kernel
theorem jF_137_91 : j_F 137 91 = some (.iload 5, 2, 0, 0, .null, .int) := by decide +kernel
theorem jF_137_93 : j_F 137 93 = some (.aload_n 0, 1, 0, 0, .null, .int) := by decide +kernel
theorem jF_137_94 : j_F 137 94 = some (.getfield 35, 3, 5, 7, .null, (.array .int)) := by decide +kernel
theorem jF_137_97 : j_F 137 97 = some (.iload_n 3, 1, 0, 0, .null, .int) := by decide +kernel
theorem jF_137_98 : j_F 137 98 = some (.iconst 2, 1, 0, 0, .null, .int) := by decide +kernel
theorem jF_137_99 : j_F 137 99 = some (.iadd, 1, 0, 0, .null, .int) := by decide +kernel
theorem jF_137_100 : j_F 137 100 = some (.iaload, 1, 0, 0, .null, .int) := by decide +kernel
theorem jF_137_101 : j_F 137 101 = some (.if_icmp .ne 20, 3, 121, 0, .null, .int) := by decide +kernel
theorem jF_137_104 : j_F 137 104 = some (.iload 6, 2, 0, 0, .null, .int) := by decide +kernel
theorem jF_137_106 : j_F 137 106 = some (.aload_n 0, 1, 0, 0, .null, .int) := by decide +kernel
theorem jF_137_107 : j_F 137 107 = some (.getfield 35, 3, 5, 7, .null, (.array .int)) := by decide +kernel
theorem jF_137_110 : j_F 137 110 = some (.iload_n 3, 1, 0, 0, .null, .int) := by decide +kernel
theorem jF_137_111 : j_F 137 111 = some (.iconst 3, 1, 0, 0, .null, .int) := by decide +kernel
theorem jF_137_112 : j_F 137 112 = some (.iadd, 1, 0, 0, .null, .int) := by decide +kernel
theorem jF_137_113 : j_F 137 113 = some (.iaload, 1, 0, 0, .null, .int) := by decide +kernel
theorem jF_137_114 : j_F 137 114 = some (.if_icmp .ge 7, 3, 121, 0, .null, .int) := by decide +kernel
theorem jF_137_117 : j_F 137 117 = some (.iconst 1, 1, 0, 0, .null, .int) := by decide +kernel
theorem jF_137_118 : j_F 137 118 = some (.goto 4, 3, 122, 0, .null, .int) := by decide +kernel
theorem jF_137_121 : j_F 137 121 = some (.iconst 0, 1, 0, 0, .null, .int) := by decide +kernel
theorem jF_137_122 : j_F 137 122 = some (.istore 7, 2, 0, 0, .null, .int) := by decide +kernel
theorem jF_137_124 : j_F 137 124 = some (.iload 7, 2, 0, 0, .null, .int) := by decide +kernel
theorem jF_137_126 : j_F 137 126 = some (.ifCond .eq 15, 3, 141, 0, .null, .int) := by decide +kernel
theorem jF_137_129 : j_F 137 129 = some (.aload_n 0, 1, 0, 0, .null, .int) := by decide +kernel
theorem jF_137_130 : j_F 137 130 = some (.iload_n 3, 1, 0, 0, .null, .int) := by decide +kernel
theorem jF_137_131 : j_F 137 131 = some (.iload 4, 2, 0, 0, .null, .int) := by decide +kernel
theorem jF_137_133 : j_F 137 133 = some (.iconst 2, 1, 0, 0, .null, .int) := by decide +kernel
theorem jF_137_134 : j_F 137 134 = some (.iload 5, 2, 0, 0, .null, .int) := by decide +kernel
theorem jF_137_136 : j_F 137 136 = some (.iload 6, 2, 0, 0, .null, .int) := by decide +kernel
theorem jF_137_138 : j_F 137 138 = some (.invokevirtual 131, 3, 134, 6, .null, .int) := by decide +kernel
theorem jF_137_141 : j_F 137 141 = some (.return_, 1, 0, 0, .null, .int) := by decide +kernel
theorem jF_141_0 : j_F 141 0 = some (.aload_n 0, 1, 0, 0, .null, .int) := by decide +kernel
theorem jF_141_1 : j_F 141 1 = some (.aload_n 1, 1, 0, 0, .null, .int) := by decide +kernel
theorem jF_141_2 : j_F 141 2 = some (.invokevirtual 42, 3, 126, 2, .null, .int) := by decide +kernel
theorem jF_141_5 : j_F 141 5 = some (.aload_n 0, 1, 0, 0, .null, .int) := by decide +kernel
theorem jF_141_6 : j_F 141 6 = some (.getfield 46, 3, 5, 9, .null, .int) := by decide +kernel
theorem jF_141_9 : j_F 141 9 = some (.ireturn, 1, 0, 0, .null, .int) := by decide +kernel
theorem jF_143_0 : j_F 143 0 = some (.aload_n 0, 1, 0, 0, .null, .int) := by decide +kernel
theorem jF_143_1 : j_F 143 1 = some (.aload_n 1, 1, 0, 0, .null, .int) := by decide +kernel
theorem jF_143_2 : j_F 143 2 = some (.invokevirtual 42, 3, 126, 2, .null, .int) := by decide +kernel
theorem jF_143_5 : j_F 143 5 = some (.iload_n 2, 1, 0, 0, .null, .int) := by decide +kernel
theorem jF_143_6 : j_F 143 6 = some (.ifCond .lt 11, 3, 17, 0, .null, .int) := by decide +kernel
theorem jF_143_9 : j_F 143 9 = some (.iload_n 2, 1, 0, 0, .null, .int) := by decide +kernel
theorem jF_143_10 : j_F 143 10 = some (.aload_n 0, 1, 0, 0, .null, .int) := by decide +kernel
theorem jF_143_11 : j_F 143 11 = some (.getfield 46, 3, 5, 9, .null, .int) := by decide +kernel
theorem jF_143_14 : j_F 143 14 = some (.if_icmp .lt 5, 3, 19, 0, .null, .int) := by decide +kernel
theorem jF_143_17 : j_F 143 17 = some (.iconst (-1), 1, 0, 0, .null, .int) := by decide +kernel
theorem jF_143_18 : j_F 143 18 = some (.ireturn, 1, 0, 0, .null, .int) := by decide +kernel
theorem jF_143_19 : j_F 143 19 = some (.iload_n 3, 1, 0, 0, .null, .int) := by decide +kernel
theorem jF_143_20 : j_F 143 20 = some (.tableswitch 61 0 2 #[28, 34, 44], 28, 0, 0, .null, .int) := by decide +kernel
theorem jF_143_48 : j_F 143 48 = some (.aload_n 0, 1, 0, 0, .null, .int) := by decide +kernel
theorem jF_143_49 : j_F 143 49 = some (.iload_n 2, 1, 0, 0, .null, .int) := by decide +kernel
theorem jF_143_50 : j_F 143 50 = some (.invokevirtual 50, 3, 131, 2, .null, .int) := by decide +kernel
theorem jF_143_53 : j_F 143 53 = some (.ireturn, 1, 0, 0, .null, .int) := by decide +kernel
theorem jF_143_54 : j_F 143 54 = some (.aload_n 0, 1, 0, 0, .null, .int) := by decide +kernel
theorem jF_143_55 : j_F 143 55 = some (.getfield 15, 3, 5, 1, .null, (.array .long)) := by decide +kernel
theorem jF_143_58 : j_F 143 58 = some (.iload_n 2, 1, 0, 0, .null, .int) := by decide +kernel
theorem jF_143_59 : j_F 143 59 = some (.laload, 1, 0, 0, .null, .int) := by decide +kernel
theorem jF_143_60 : j_F 143 60 = some (.invokestatic 54, 3, 96, 1, .null, .int) := by decide +kernel
theorem jF_143_63 : j_F 143 63 = some (.ireturn, 1, 0, 0, .null, .int) := by decide +kernel
theorem jF_143_64 : j_F 143 64 = some (.aload_n 1, 1, 0, 0, .null, .int) := by decide +kernel
theorem jF_143_65 : j_F 143 65 = some (.getfield 60, 3, 8, 8, .null, (.object "HundredWords$Told")) := by decide +kernel
theorem jF_143_68 : j_F 143 68 = some (.aload_n 0, 1, 0, 0, .null, .int) := by decide +kernel
theorem jF_143_69 : j_F 143 69 = some (.getfield 15, 3, 5, 1, .null, (.array .long)) := by decide +kernel
theorem jF_143_72 : j_F 143 72 = some (.iload_n 2, 1, 0, 0, .null, .int) := by decide +kernel
theorem jF_143_73 : j_F 143 73 = some (.laload, 1, 0, 0, .null, .int) := by decide +kernel
theorem jF_143_74 : j_F 143 74 = some (.invokevirtual 66, 3, 86, 2, .null, .int) := by decide +kernel
theorem jF_143_77 : j_F 143 77 = some (.invokestatic 72, 3, 98, 1, .null, .int) := by decide +kernel
theorem jF_143_80 : j_F 143 80 = some (.ireturn, 1, 0, 0, .null, .int) := by decide +kernel
theorem jF_143_81 : j_F 143 81 = some (.iconst (-1), 1, 0, 0, .null, .int) := by decide +kernel
theorem jF_143_82 : j_F 143 82 = some (.ireturn, 1, 0, 0, .null, .int) := by decide +kernel
theorem jF_165_0 : j_F 165 0 = some (.aload_n 0, 1, 0, 0, .null, .int) := by decide +kernel
theorem jF_165_1 : j_F 165 1 = some (.aload_n 1, 1, 0, 0, .null, .int) := by decide +kernel
theorem jF_165_2 : j_F 165 2 = some (.invokevirtual 42, 3, 126, 2, .null, .int) := by decide +kernel
theorem jF_165_5 : j_F 165 5 = some (.iload_n 2, 1, 0, 0, .null, .int) := by decide +kernel
theorem jF_165_6 : j_F 165 6 = some (.tableswitch 58 0 2 #[26, 31, 50], 26, 0, 0, .null, .int) := by decide +kernel
theorem jF_165_32 : j_F 165 32 = some (.aload_n 0, 1, 0, 0, .null, .int) := by decide +kernel
theorem jF_165_33 : j_F 165 33 = some (.getfield 76, 3, 5, 11, .null, .int) := by decide +kernel
theorem jF_165_36 : j_F 165 36 = some (.ireturn, 1, 0, 0, .null, .int) := by decide +kernel
theorem jF_165_37 : j_F 165 37 = some (.aload_n 0, 1, 0, 0, .null, .int) := by decide +kernel
theorem jF_165_38 : j_F 165 38 = some (.getfield 76, 3, 5, 11, .null, .int) := by decide +kernel
theorem jF_165_41 : j_F 165 41 = some (.ifCond .ne 7, 3, 48, 0, .null, .int) := by decide +kernel
theorem jF_165_44 : j_F 165 44 = some (.iconst 0, 1, 0, 0, .null, .int) := by decide +kernel
theorem jF_165_45 : j_F 165 45 = some (.goto 10, 3, 55, 0, .null, .int) := by decide +kernel
theorem jF_165_48 : j_F 165 48 = some (.aload_n 0, 1, 0, 0, .null, .int) := by decide +kernel
theorem jF_165_49 : j_F 165 49 = some (.getfield 79, 3, 5, 12, .null, .long) := by decide +kernel
theorem jF_165_52 : j_F 165 52 = some (.invokestatic 54, 3, 96, 1, .null, .int) := by decide +kernel
theorem jF_165_55 : j_F 165 55 = some (.ireturn, 1, 0, 0, .null, .int) := by decide +kernel
theorem jF_165_56 : j_F 165 56 = some (.aload_n 0, 1, 0, 0, .null, .int) := by decide +kernel
theorem jF_165_57 : j_F 165 57 = some (.getfield 83, 3, 5, 13, .null, .long) := by decide +kernel
theorem jF_165_60 : j_F 165 60 = some (.invokestatic 54, 3, 96, 1, .null, .int) := by decide +kernel
theorem jF_165_63 : j_F 165 63 = some (.ireturn, 1, 0, 0, .null, .int) := by decide +kernel
theorem jF_165_64 : j_F 165 64 = some (.iconst (-1), 1, 0, 0, .null, .int) := by decide +kernel
theorem jF_165_65 : j_F 165 65 = some (.ireturn, 1, 0, 0, .null, .int) := by decide +kernel
