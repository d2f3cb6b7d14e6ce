/-! CODE. -/
theorem jF_326_0 : j_F 326 0 = some (.iconst 1, 1, 0, 0, .null, .int) := by decide +kernel
theorem jF_326_1 : j_F 326 1 = some (.istore_n 1, 1, 0, 0, .null, .int) := by decide +kernel
theorem jF_326_2 : j_F 326 2 = some (.iload_n 1, 1, 0, 0, .null, .int) := by decide +kernel
theorem jF_326_3 : j_F 326 3 = some (.ifCond .eq 107, 3, 110, 0, .null, .int) := by decide +kernel
theorem jF_326_6 : j_F 326 6 = some (.aload_n 0, 1, 0, 0, .null, .int) := by decide +kernel
theorem jF_326_7 : j_F 326 7 = some (.getfield 212, 3, 12, 5, .null, .int) := by decide +kernel
theorem jF_326_10 : j_F 326 10 = some (.ifCond .ne 100, 3, 110, 0, .null, .int) := by decide +kernel
theorem jF_326_13 : j_F 326 13 = some (.aload_n 0, 1, 0, 0, .null, .int) := by decide +kernel
theorem jF_326_14 : j_F 326 14 = some (.invokevirtual 224, 3, 216, 1, .null, .int) := by decide +kernel
theorem jF_326_17 : j_F 326 17 = some (.istore_n 2, 1, 0, 0, .null, .int) := by decide +kernel
theorem jF_326_18 : j_F 326 18 = some (.iload_n 2, 1, 0, 0, .null, .int) := by decide +kernel
theorem jF_326_19 : j_F 326 19 = some (.bipush 91, 2, 0, 0, .null, .int) := by decide +kernel
theorem jF_326_21 : j_F 326 21 = some (.if_icmp .ne 26, 3, 47, 0, .null, .int) := by decide +kernel
theorem jF_326_24 : j_F 326 24 = some (.aload_n 0, 1, 0, 0, .null, .int) := by decide +kernel
theorem jF_326_25 : j_F 326 25 = some (.bipush 25, 2, 0, 0, .null, .int) := by decide +kernel
theorem jF_326_27 : j_F 326 27 = some (.aload_n 0, 1, 0, 0, .null, .int) := by decide +kernel
theorem jF_326_28 : j_F 326 28 = some (.getfield 218, 3, 12, 2, .null, .int) := by decide +kernel
theorem jF_326_31 : j_F 326 31 = some (.invokevirtual 600, 3, 327, 3, .null, .int) := by decide +kernel
theorem jF_326_34 : j_F 326 34 = some (.aload_n 0, 1, 0, 0, .null, .int) := by decide +kernel
theorem jF_326_35 : j_F 326 35 = some (.dup, 1, 0, 0, .null, .int) := by decide +kernel
theorem jF_326_36 : j_F 326 36 = some (.getfield 218, 3, 12, 2, .null, .int) := by decide +kernel
theorem jF_326_39 : j_F 326 39 = some (.iconst 1, 1, 0, 0, .null, .int) := by decide +kernel
theorem jF_326_40 : j_F 326 40 = some (.iadd, 1, 0, 0, .null, .int) := by decide +kernel
theorem jF_326_41 : j_F 326 41 = some (.putfield 218, 3, 12, 2, .null, .int) := by decide +kernel
theorem jF_326_44 : j_F 326 44 = some (.goto (-42), 3, 2, 0, .null, .int) := by decide +kernel
theorem jF_326_47 : j_F 326 47 = some (.aload_n 0, 1, 0, 0, .null, .int) := by decide +kernel
theorem jF_326_48 : j_F 326 48 = some (.aload_n 0, 1, 0, 0, .null, .int) := by decide +kernel
theorem jF_326_49 : j_F 326 49 = some (.getfield 158, 3, 12, 73, .null, (.array .char)) := by decide +kernel
theorem jF_326_52 : j_F 326 52 = some (.invokevirtual 235, 3, 220, 2, .null, .int) := by decide +kernel
theorem jF_326_55 : j_F 326 55 = some (.ifCond .eq 24, 3, 79, 0, .null, .int) := by decide +kernel
theorem jF_326_58 : j_F 326 58 = some (.aload_n 0, 1, 0, 0, .null, .int) := by decide +kernel
theorem jF_326_59 : j_F 326 59 = some (.bipush 12, 2, 0, 0, .null, .int) := by decide +kernel
theorem jF_326_61 : j_F 326 61 = some (.aload_n 0, 1, 0, 0, .null, .int) := by decide +kernel
theorem jF_326_62 : j_F 326 62 = some (.getfield 218, 3, 12, 2, .null, .int) := by decide +kernel
theorem jF_326_65 : j_F 326 65 = some (.invokevirtual 600, 3, 327, 3, .null, .int) := by decide +kernel
theorem jF_326_68 : j_F 326 68 = some (.aload_n 0, 1, 0, 0, .null, .int) := by decide +kernel
theorem jF_326_69 : j_F 326 69 = some (.aload_n 0, 1, 0, 0, .null, .int) := by decide +kernel
theorem jF_326_70 : j_F 326 70 = some (.getfield 158, 3, 12, 73, .null, (.array .char)) := by decide +kernel
theorem jF_326_73 : j_F 326 73 = some (.invokevirtual 288, 3, 234, 2, .null, .int) := by decide +kernel
theorem jF_326_76 : j_F 326 76 = some (.goto (-74), 3, 2, 0, .null, .int) := by decide +kernel
theorem jF_326_79 : j_F 326 79 = some (.aload_n 0, 1, 0, 0, .null, .int) := by decide +kernel
theorem jF_326_80 : j_F 326 80 = some (.invokevirtual 627, 3, 328, 1, .null, .int) := by decide +kernel
theorem jF_326_83 : j_F 326 83 = some (.aload_n 0, 1, 0, 0, .null, .int) := by decide +kernel
theorem jF_326_84 : j_F 326 84 = some (.invokevirtual 630, 3, 342, 1, .null, .int) := by decide +kernel
theorem jF_326_87 : j_F 326 87 = some (.aload_n 0, 1, 0, 0, .null, .int) := by decide +kernel
theorem jF_326_88 : j_F 326 88 = some (.getfield 212, 3, 12, 5, .null, .int) := by decide +kernel
theorem jF_326_91 : j_F 326 91 = some (.ifCond .ne 14, 3, 105, 0, .null, .int) := by decide +kernel
theorem jF_326_94 : j_F 326 94 = some (.aload_n 0, 1, 0, 0, .null, .int) := by decide +kernel
theorem jF_326_95 : j_F 326 95 = some (.invokevirtual 633, 3, 343, 1, .null, .int) := by decide +kernel
theorem jF_326_98 : j_F 326 98 = some (.ifCond .eq 7, 3, 105, 0, .null, .int) := by decide +kernel
theorem jF_326_101 : j_F 326 101 = some (.iconst 1, 1, 0, 0, .null, .int) := by decide +kernel
theorem jF_326_102 : j_F 326 102 = some (.goto 4, 3, 106, 0, .null, .int) := by decide +kernel
theorem jF_326_105 : j_F 326 105 = some (.iconst 0, 1, 0, 0, .null, .int) := by decide +kernel
theorem jF_326_106 : j_F 326 106 = some (.istore_n 1, 1, 0, 0, .null, .int) := by decide +kernel
theorem jF_326_107 : j_F 326 107 = some (.goto (-105), 3, 2, 0, .null, .int) := by decide +kernel
theorem jF_326_110 : j_F 326 110 = some (.aload_n 0, 1, 0, 0, .null, .int) := by decide +kernel
theorem jF_326_111 : j_F 326 111 = some (.getfield 212, 3, 12, 5, .null, .int) := by decide +kernel
theorem jF_326_114 : j_F 326 114 = some (.ifCond .ne 17, 3, 131, 0, .null, .int) := by decide +kernel
theorem jF_326_117 : j_F 326 117 = some (.aload_n 0, 1, 0, 0, .null, .int) := by decide +kernel
theorem jF_326_118 : j_F 326 118 = some (.getfield 579, 3, 12, 89, .null, .int) := by decide +kernel
theorem jF_326_121 : j_F 326 121 = some (.ifCond .le 10, 3, 131, 0, .null, .int) := by decide +kernel
theorem jF_326_124 : j_F 326 124 = some (.aload_n 0, 1, 0, 0, .null, .int) := by decide +kernel
theorem jF_326_125 : j_F 326 125 = some (.invokevirtual 591, 3, 336, 1, .null, .int) := by decide +kernel
theorem jF_326_128 : j_F 326 128 = some (.goto (-18), 3, 110, 0, .null, .int) := by decide +kernel
theorem jF_326_131 : j_F 326 131 = some (.return_, 1, 0, 0, .null, .int) := by decide +kernel
theorem jF_328_0 : j_F 328 0 = some (.aload_n 0, 1, 0, 0, .null, .int) := by decide +kernel
theorem jF_328_1 : j_F 328 1 = some (.aload_n 0, 1, 0, 0, .null, .int) := by decide +kernel
theorem jF_328_2 : j_F 328 2 = some (.getfield 167, 3, 12, 76, .null, (.array .char)) := by decide +kernel
theorem jF_328_5 : j_F 328 5 = some (.invokevirtual 239, 3, 219, 2, .null, .int) := by decide +kernel
theorem jF_328_8 : j_F 328 8 = some (.ifCond .eq 10, 3, 18, 0, .null, .int) := by decide +kernel
theorem jF_328_11 : j_F 328 11 = some (.aload_n 0, 1, 0, 0, .null, .int) := by decide +kernel
theorem jF_328_12 : j_F 328 12 = some (.bipush 13, 2, 0, 0, .null, .int) := by decide +kernel
theorem jF_328_14 : j_F 328 14 = some (.invokevirtual 582, 3, 329, 2, .null, .int) := by decide +kernel
theorem jF_328_17 : j_F 328 17 = some (.return_, 1, 0, 0, .null, .int) := by decide +kernel
theorem jF_328_18 : j_F 328 18 = some (.aload_n 0, 1, 0, 0, .null, .int) := by decide +kernel
theorem jF_328_19 : j_F 328 19 = some (.invokevirtual 624, 3, 330, 1, .null, .int) := by decide +kernel
theorem jF_328_22 : j_F 328 22 = some (.aload_n 0, 1, 0, 0, .null, .int) := by decide +kernel
theorem jF_328_23 : j_F 328 23 = some (.getfield 212, 3, 12, 5, .null, .int) := by decide +kernel
theorem jF_328_26 : j_F 328 26 = some (.ifCond .eq 4, 3, 30, 0, .null, .int) := by decide +kernel
theorem jF_328_29 : j_F 328 29 = some (.return_, 1, 0, 0, .null, .int) := by decide +kernel
theorem jF_328_30 : j_F 328 30 = some (.aload_n 0, 1, 0, 0, .null, .int) := by decide +kernel
theorem jF_328_31 : j_F 328 31 = some (.invokevirtual 224, 3, 216, 1, .null, .int) := by decide +kernel
theorem jF_328_34 : j_F 328 34 = some (.istore_n 1, 1, 0, 0, .null, .int) := by decide +kernel
theorem jF_328_35 : j_F 328 35 = some (.iload_n 1, 1, 0, 0, .null, .int) := by decide +kernel
theorem jF_328_36 : j_F 328 36 = some (.bipush 60, 2, 0, 0, .null, .int) := by decide +kernel
theorem jF_328_38 : j_F 328 38 = some (.if_icmp .eq 25, 3, 63, 0, .null, .int) := by decide +kernel
theorem jF_328_41 : j_F 328 41 = some (.iload_n 1, 1, 0, 0, .null, .int) := by decide +kernel
theorem jF_328_42 : j_F 328 42 = some (.bipush 62, 2, 0, 0, .null, .int) := by decide +kernel
theorem jF_328_44 : j_F 328 44 = some (.if_icmp .eq 19, 3, 63, 0, .null, .int) := by decide +kernel
theorem jF_328_47 : j_F 328 47 = some (.iload_n 1, 1, 0, 0, .null, .int) := by decide +kernel
theorem jF_328_48 : j_F 328 48 = some (.bipush 61, 2, 0, 0, .null, .int) := by decide +kernel
theorem jF_328_50 : j_F 328 50 = some (.if_icmp .eq 13, 3, 63, 0, .null, .int) := by decide +kernel
theorem jF_328_53 : j_F 328 53 = some (.aload_n 0, 1, 0, 0, .null, .int) := by decide +kernel
theorem jF_328_54 : j_F 328 54 = some (.iconst 1, 1, 0, 0, .null, .int) := by decide +kernel
theorem jF_328_55 : j_F 328 55 = some (.aload_n 0, 1, 0, 0, .null, .int) := by decide +kernel
theorem jF_328_56 : j_F 328 56 = some (.getfield 218, 3, 12, 2, .null, .int) := by decide +kernel
theorem jF_328_59 : j_F 328 59 = some (.invokevirtual 242, 3, 218, 3, .null, .int) := by decide +kernel
theorem jF_328_62 : j_F 328 62 = some (.return_, 1, 0, 0, .null, .int) := by decide +kernel
theorem jF_328_63 : j_F 328 63 = some (.aload_n 0, 1, 0, 0, .null, .int) := by decide +kernel
theorem jF_328_64 : j_F 328 64 = some (.dup, 1, 0, 0, .null, .int) := by decide +kernel
theorem jF_328_65 : j_F 328 65 = some (.getfield 218, 3, 12, 2, .null, .int) := by decide +kernel
theorem jF_328_68 : j_F 328 68 = some (.iconst 1, 1, 0, 0, .null, .int) := by decide +kernel
theorem jF_328_69 : j_F 328 69 = some (.iadd, 1, 0, 0, .null, .int) := by decide +kernel
theorem jF_328_70 : j_F 328 70 = some (.putfield 218, 3, 12, 2, .null, .int) := by decide +kernel
theorem jF_328_73 : j_F 328 73 = some (.aload_n 0, 1, 0, 0, .null, .int) := by decide +kernel
theorem jF_328_74 : j_F 328 74 = some (.invokevirtual 624, 3, 330, 1, .null, .int) := by decide +kernel
theorem jF_328_77 : j_F 328 77 = some (.aload_n 0, 1, 0, 0, .null, .int) := by decide +kernel
theorem jF_328_78 : j_F 328 78 = some (.iload_n 1, 1, 0, 0, .null, .int) := by decide +kernel
theorem jF_328_79 : j_F 328 79 = some (.bipush 60, 2, 0, 0, .null, .int) := by decide +kernel
theorem jF_328_81 : j_F 328 81 = some (.if_icmp .ne 8, 3, 89, 0, .null, .int) := by decide +kernel
theorem jF_328_84 : j_F 328 84 = some (.bipush 7, 2, 0, 0, .null, .int) := by decide +kernel
theorem jF_328_86 : j_F 328 86 = some (.goto 16, 3, 102, 0, .null, .int) := by decide +kernel
theorem jF_328_89 : j_F 328 89 = some (.iload_n 1, 1, 0, 0, .null, .int) := by decide +kernel
theorem jF_328_90 : j_F 328 90 = some (.bipush 62, 2, 0, 0, .null, .int) := by decide +kernel
theorem jF_328_92 : j_F 328 92 = some (.if_icmp .ne 8, 3, 100, 0, .null, .int) := by decide +kernel
theorem jF_328_95 : j_F 328 95 = some (.bipush 8, 2, 0, 0, .null, .int) := by decide +kernel
theorem jF_328_97 : j_F 328 97 = some (.goto 5, 3, 102, 0, .null, .int) := by decide +kernel
theorem jF_328_100 : j_F 328 100 = some (.bipush 9, 2, 0, 0, .null, .int) := by decide +kernel
theorem jF_328_102 : j_F 328 102 = some (.invokevirtual 582, 3, 329, 2, .null, .int) := by decide +kernel
theorem jF_328_105 : j_F 328 105 = some (.return_, 1, 0, 0, .null, .int) := by decide +kernel
theorem jF_330_0 : j_F 330 0 = some (.aload_n 0, 1, 0, 0, .null, .int) := by decide +kernel
theorem jF_330_1 : j_F 330 1 = some (.getfield 585, 3, 12, 91, .null, .int) := by decide +kernel
theorem jF_330_4 : j_F 330 4 = some (.istore_n 1, 1, 0, 0, .null, .int) := by decide +kernel
theorem jF_330_5 : j_F 330 5 = some (.aload_n 0, 1, 0, 0, .null, .int) := by decide +kernel
theorem jF_330_6 : j_F 330 6 = some (.aload_n 0, 1, 0, 0, .null, .int) := by decide +kernel
theorem jF_330_7 : j_F 330 7 = some (.getfield 579, 3, 12, 89, .null, .int) := by decide +kernel
theorem jF_330_10 : j_F 330 10 = some (.putfield 585, 3, 12, 91, .null, .int) := by decide +kernel
theorem jF_330_13 : j_F 330 13 = some (.iconst 1, 1, 0, 0, .null, .int) := by decide +kernel
theorem jF_330_14 : j_F 330 14 = some (.istore_n 2, 1, 0, 0, .null, .int) := by decide +kernel
theorem jF_330_15 : j_F 330 15 = some (.iload_n 2, 1, 0, 0, .null, .int) := by decide +kernel
theorem jF_330_16 : j_F 330 16 = some (.ifCond .eq 37, 3, 53, 0, .null, .int) := by decide +kernel
theorem jF_330_19 : j_F 330 19 = some (.aload_n 0, 1, 0, 0, .null, .int) := by decide +kernel
theorem jF_330_20 : j_F 330 20 = some (.getfield 212, 3, 12, 5, .null, .int) := by decide +kernel
theorem jF_330_23 : j_F 330 23 = some (.ifCond .ne 30, 3, 53, 0, .null, .int) := by decide +kernel
theorem jF_330_26 : j_F 330 26 = some (.aload_n 0, 1, 0, 0, .null, .int) := by decide +kernel
theorem jF_330_27 : j_F 330 27 = some (.invokevirtual 618, 3, 331, 1, .null, .int) := by decide +kernel
theorem jF_330_30 : j_F 330 30 = some (.aload_n 0, 1, 0, 0, .null, .int) := by decide +kernel
theorem jF_330_31 : j_F 330 31 = some (.getfield 212, 3, 12, 5, .null, .int) := by decide +kernel
theorem jF_330_34 : j_F 330 34 = some (.ifCond .ne 14, 3, 48, 0, .null, .int) := by decide +kernel
theorem jF_330_37 : j_F 330 37 = some (.aload_n 0, 1, 0, 0, .null, .int) := by decide +kernel
theorem jF_330_38 : j_F 330 38 = some (.invokevirtual 621, 3, 337, 1, .null, .int) := by decide +kernel
theorem jF_330_41 : j_F 330 41 = some (.ifCond .eq 7, 3, 48, 0, .null, .int) := by decide +kernel
theorem jF_330_44 : j_F 330 44 = some (.iconst 1, 1, 0, 0, .null, .int) := by decide +kernel
theorem jF_330_45 : j_F 330 45 = some (.goto 4, 3, 49, 0, .null, .int) := by decide +kernel
theorem jF_330_48 : j_F 330 48 = some (.iconst 0, 1, 0, 0, .null, .int) := by decide +kernel
theorem jF_330_49 : j_F 330 49 = some (.istore_n 2, 1, 0, 0, .null, .int) := by decide +kernel
theorem jF_330_50 : j_F 330 50 = some (.goto (-35), 3, 15, 0, .null, .int) := by decide +kernel
theorem jF_330_53 : j_F 330 53 = some (.aload_n 0, 1, 0, 0, .null, .int) := by decide +kernel
theorem jF_330_54 : j_F 330 54 = some (.getfield 212, 3, 12, 5, .null, .int) := by decide +kernel
theorem jF_330_57 : j_F 330 57 = some (.ifCond .ne 21, 3, 78, 0, .null, .int) := by decide +kernel
theorem jF_330_60 : j_F 330 60 = some (.aload_n 0, 1, 0, 0, .null, .int) := by decide +kernel
theorem jF_330_61 : j_F 330 61 = some (.getfield 579, 3, 12, 89, .null, .int) := by decide +kernel
theorem jF_330_64 : j_F 330 64 = some (.aload_n 0, 1, 0, 0, .null, .int) := by decide +kernel
theorem jF_330_65 : j_F 330 65 = some (.getfield 585, 3, 12, 91, .null, .int) := by decide +kernel
theorem jF_330_68 : j_F 330 68 = some (.if_icmp .le 10, 3, 78, 0, .null, .int) := by decide +kernel
theorem jF_330_71 : j_F 330 71 = some (.aload_n 0, 1, 0, 0, .null, .int) := by decide +kernel
theorem jF_330_72 : j_F 330 72 = some (.invokevirtual 591, 3, 336, 1, .null, .int) := by decide +kernel
theorem jF_330_75 : j_F 330 75 = some (.goto (-22), 3, 53, 0, .null, .int) := by decide +kernel
theorem jF_330_78 : j_F 330 78 = some (.aload_n 0, 1, 0, 0, .null, .int) := by decide +kernel
theorem jF_330_79 : j_F 330 79 = some (.iload_n 1, 1, 0, 0, .null, .int) := by decide +kernel
theorem jF_330_80 : j_F 330 80 = some (.putfield 585, 3, 12, 91, .null, .int) := by decide +kernel
theorem jF_330_83 : j_F 330 83 = some (.return_, 1, 0, 0, .null, .int) := by decide +kernel
theorem jF_337_0 : j_F 337 0 = some (.aload_n 0, 1, 0, 0, .null, .int) := by decide +kernel
theorem jF_337_1 : j_F 337 1 = some (.getfield 212, 3, 12, 5, .null, .int) := by decide +kernel
theorem jF_337_4 : j_F 337 4 = some (.ifCond .ne 118, 3, 122, 0, .null, .int) := by decide +kernel
theorem jF_337_7 : j_F 337 7 = some (.aload_n 0, 1, 0, 0, .null, .int) := by decide +kernel
theorem jF_337_8 : j_F 337 8 = some (.invokevirtual 224, 3, 216, 1, .null, .int) := by decide +kernel
theorem jF_337_11 : j_F 337 11 = some (.bipush 41, 2, 0, 0, .null, .int) := by decide +kernel
theorem jF_337_13 : j_F 337 13 = some (.if_icmp .ne 109, 3, 122, 0, .null, .int) := by decide +kernel
theorem jF_337_16 : j_F 337 16 = some (.aload_n 0, 1, 0, 0, .null, .int) := by decide +kernel
theorem jF_337_17 : j_F 337 17 = some (.invokevirtual 609, 3, 338, 1, .null, .int) := by decide +kernel
theorem jF_337_20 : j_F 337 20 = some (.bipush 20, 2, 0, 0, .null, .int) := by decide +kernel
theorem jF_337_22 : j_F 337 22 = some (.if_icmp .eq 21, 3, 43, 0, .null, .int) := by decide +kernel
theorem jF_337_25 : j_F 337 25 = some (.aload_n 0, 1, 0, 0, .null, .int) := by decide +kernel
theorem jF_337_26 : j_F 337 26 = some (.invokevirtual 609, 3, 338, 1, .null, .int) := by decide +kernel
theorem jF_337_29 : j_F 337 29 = some (.bipush 23, 2, 0, 0, .null, .int) := by decide +kernel
theorem jF_337_31 : j_F 337 31 = some (.if_icmp .eq 12, 3, 43, 0, .null, .int) := by decide +kernel
theorem jF_337_34 : j_F 337 34 = some (.aload_n 0, 1, 0, 0, .null, .int) := by decide +kernel
theorem jF_337_35 : j_F 337 35 = some (.invokevirtual 609, 3, 338, 1, .null, .int) := by decide +kernel
theorem jF_337_38 : j_F 337 38 = some (.bipush 24, 2, 0, 0, .null, .int) := by decide +kernel
theorem jF_337_40 : j_F 337 40 = some (.if_icmp .ne 82, 3, 122, 0, .null, .int) := by decide +kernel
theorem jF_337_43 : j_F 337 43 = some (.aload_n 0, 1, 0, 0, .null, .int) := by decide +kernel
theorem jF_337_44 : j_F 337 44 = some (.dup, 1, 0, 0, .null, .int) := by decide +kernel
theorem jF_337_45 : j_F 337 45 = some (.getfield 218, 3, 12, 2, .null, .int) := by decide +kernel
theorem jF_337_48 : j_F 337 48 = some (.iconst 1, 1, 0, 0, .null, .int) := by decide +kernel
theorem jF_337_49 : j_F 337 49 = some (.iadd, 1, 0, 0, .null, .int) := by decide +kernel
theorem jF_337_50 : j_F 337 50 = some (.putfield 218, 3, 12, 2, .null, .int) := by decide +kernel
theorem jF_337_53 : j_F 337 53 = some (.aload_n 0, 1, 0, 0, .null, .int) := by decide +kernel
theorem jF_337_54 : j_F 337 54 = some (.invokevirtual 612, 3, 340, 1, .null, .int) := by decide +kernel
theorem jF_337_57 : j_F 337 57 = some (.aload_n 0, 1, 0, 0, .null, .int) := by decide +kernel
theorem jF_337_58 : j_F 337 58 = some (.dup, 1, 0, 0, .null, .int) := by decide +kernel
theorem jF_337_59 : j_F 337 59 = some (.getfield 579, 3, 12, 89, .null, .int) := by decide +kernel
theorem jF_337_62 : j_F 337 62 = some (.iconst 1, 1, 0, 0, .null, .int) := by decide +kernel
theorem jF_337_63 : j_F 337 63 = some (.isub, 1, 0, 0, .null, .int) := by decide +kernel
theorem jF_337_64 : j_F 337 64 = some (.putfield 579, 3, 12, 89, .null, .int) := by decide +kernel
theorem jF_337_67 : j_F 337 67 = some (.aload_n 0, 1, 0, 0, .null, .int) := by decide +kernel
theorem jF_337_68 : j_F 337 68 = some (.dup, 1, 0, 0, .null, .int) := by decide +kernel
theorem jF_337_69 : j_F 337 69 = some (.getfield 576, 3, 12, 90, .null, .int) := by decide +kernel
theorem jF_337_72 : j_F 337 72 = some (.iconst 1, 1, 0, 0, .null, .int) := by decide +kernel
theorem jF_337_73 : j_F 337 73 = some (.isub, 1, 0, 0, .null, .int) := by decide +kernel
theorem jF_337_74 : j_F 337 74 = some (.putfield 576, 3, 12, 90, .null, .int) := by decide +kernel
theorem jF_337_77 : j_F 337 77 = some (.aload_n 0, 1, 0, 0, .null, .int) := by decide +kernel
theorem jF_337_78 : j_F 337 78 = some (.getfield 200, 3, 12, 88, .null, (.array .int)) := by decide +kernel
theorem jF_337_81 : j_F 337 81 = some (.aload_n 0, 1, 0, 0, .null, .int) := by decide +kernel
theorem jF_337_82 : j_F 337 82 = some (.getfield 579, 3, 12, 89, .null, .int) := by decide +kernel
theorem jF_337_85 : j_F 337 85 = some (.iaload, 1, 0, 0, .null, .int) := by decide +kernel
theorem jF_337_86 : j_F 337 86 = some (.bipush 20, 2, 0, 0, .null, .int) := by decide +kernel
theorem jF_337_88 : j_F 337 88 = some (.if_icmp .eq 27, 3, 115, 0, .null, .int) := by decide +kernel
theorem jF_337_91 : j_F 337 91 = some (.aload_n 0, 1, 0, 0, .null, .int) := by decide +kernel
theorem jF_337_92 : j_F 337 92 = some (.aload_n 0, 1, 0, 0, .null, .int) := by decide +kernel
theorem jF_337_93 : j_F 337 93 = some (.getfield 200, 3, 12, 88, .null, (.array .int)) := by decide +kernel
theorem jF_337_96 : j_F 337 96 = some (.aload_n 0, 1, 0, 0, .null, .int) := by decide +kernel
theorem jF_337_97 : j_F 337 97 = some (.getfield 579, 3, 12, 89, .null, .int) := by decide +kernel
theorem jF_337_100 : j_F 337 100 = some (.iaload, 1, 0, 0, .null, .int) := by decide +kernel
theorem jF_337_101 : j_F 337 101 = some (.bipush 23, 2, 0, 0, .null, .int) := by decide +kernel
theorem jF_337_103 : j_F 337 103 = some (.if_icmp .ne 7, 3, 110, 0, .null, .int) := by decide +kernel
theorem jF_337_106 : j_F 337 106 = some (.iconst 5, 1, 0, 0, .null, .int) := by decide +kernel
theorem jF_337_107 : j_F 337 107 = some (.goto 5, 3, 112, 0, .null, .int) := by decide +kernel
theorem jF_337_110 : j_F 337 110 = some (.bipush 6, 2, 0, 0, .null, .int) := by decide +kernel
theorem jF_337_112 : j_F 337 112 = some (.invokevirtual 582, 3, 329, 2, .null, .int) := by decide +kernel
theorem jF_337_115 : j_F 337 115 = some (.aload_n 0, 1, 0, 0, .null, .int) := by decide +kernel
theorem jF_337_116 : j_F 337 116 = some (.invokevirtual 606, 3, 335, 1, .null, .int) := by decide +kernel
theorem jF_337_119 : j_F 337 119 = some (.goto (-119), 3, 0, 0, .null, .int) := by decide +kernel
theorem jF_337_122 : j_F 337 122 = some (.aload_n 0, 1, 0, 0, .null, .int) := by decide +kernel
theorem jF_337_123 : j_F 337 123 = some (.bipush 42, 2, 0, 0, .null, .int) := by decide +kernel
theorem jF_337_125 : j_F 337 125 = some (.invokevirtual 246, 3, 239, 2, .null, .int) := by decide +kernel
theorem jF_337_128 : j_F 337 128 = some (.ifCond .ne 12, 3, 140, 0, .null, .int) := by decide +kernel
theorem jF_337_131 : j_F 337 131 = some (.aload_n 0, 1, 0, 0, .null, .int) := by decide +kernel
theorem jF_337_132 : j_F 337 132 = some (.bipush 47, 2, 0, 0, .null, .int) := by decide +kernel
theorem jF_337_134 : j_F 337 134 = some (.invokevirtual 246, 3, 239, 2, .null, .int) := by decide +kernel
theorem jF_337_137 : j_F 337 137 = some (.ifCond .eq 70, 3, 207, 0, .null, .int) := by decide +kernel
theorem jF_337_140 : j_F 337 140 = some (.aload_n 0, 1, 0, 0, .null, .int) := by decide +kernel
theorem jF_337_141 : j_F 337 141 = some (.getfield 7, 3, 12, 0, .null, (.array .int)) := by decide +kernel
theorem jF_337_144 : j_F 337 144 = some (.aload_n 0, 1, 0, 0, .null, .int) := by decide +kernel
theorem jF_337_145 : j_F 337 145 = some (.getfield 218, 3, 12, 2, .null, .int) := by decide +kernel
theorem jF_337_148 : j_F 337 148 = some (.iconst 1, 1, 0, 0, .null, .int) := by decide +kernel
theorem jF_337_149 : j_F 337 149 = some (.isub, 1, 0, 0, .null, .int) := by decide +kernel
theorem jF_337_150 : j_F 337 150 = some (.iaload, 1, 0, 0, .null, .int) := by decide +kernel
theorem jF_337_151 : j_F 337 151 = some (.bipush 42, 2, 0, 0, .null, .int) := by decide +kernel
theorem jF_337_153 : j_F 337 153 = some (.if_icmp .ne 7, 3, 160, 0, .null, .int) := by decide +kernel
theorem jF_337_156 : j_F 337 156 = some (.iconst 3, 1, 0, 0, .null, .int) := by decide +kernel
theorem jF_337_157 : j_F 337 157 = some (.goto 4, 3, 161, 0, .null, .int) := by decide +kernel
theorem jF_337_160 : j_F 337 160 = some (.iconst 4, 1, 0, 0, .null, .int) := by decide +kernel
theorem jF_337_161 : j_F 337 161 = some (.istore_n 1, 1, 0, 0, .null, .int) := by decide +kernel
theorem jF_337_162 : j_F 337 162 = some (.aload_n 0, 1, 0, 0, .null, .int) := by decide +kernel
theorem jF_337_163 : j_F 337 163 = some (.iconst 3, 1, 0, 0, .null, .int) := by decide +kernel
theorem jF_337_164 : j_F 337 164 = some (.invokevirtual 615, 3, 341, 2, .null, .int) := by decide +kernel
theorem jF_337_167 : j_F 337 167 = some (.ifCond .ne 11, 3, 178, 0, .null, .int) := by decide +kernel
theorem jF_337_170 : j_F 337 170 = some (.aload_n 0, 1, 0, 0, .null, .int) := by decide +kernel
theorem jF_337_171 : j_F 337 171 = some (.iconst 4, 1, 0, 0, .null, .int) := by decide +kernel
theorem jF_337_172 : j_F 337 172 = some (.invokevirtual 615, 3, 341, 2, .null, .int) := by decide +kernel
theorem jF_337_175 : j_F 337 175 = some (.ifCond .eq 10, 3, 185, 0, .null, .int) := by decide +kernel
theorem jF_337_178 : j_F 337 178 = some (.aload_n 0, 1, 0, 0, .null, .int) := by decide +kernel
theorem jF_337_179 : j_F 337 179 = some (.invokevirtual 591, 3, 336, 1, .null, .int) := by decide +kernel
theorem jF_337_182 : j_F 337 182 = some (.goto (-20), 3, 162, 0, .null, .int) := by decide +kernel
theorem jF_337_185 : j_F 337 185 = some (.aload_n 0, 1, 0, 0, .null, .int) := by decide +kernel
theorem jF_337_186 : j_F 337 186 = some (.getfield 200, 3, 12, 88, .null, (.array .int)) := by decide +kernel
theorem jF_337_189 : j_F 337 189 = some (.aload_n 0, 1, 0, 0, .null, .int) := by decide +kernel
theorem jF_337_190 : j_F 337 190 = some (.getfield 579, 3, 12, 89, .null, .int) := by decide +kernel
theorem jF_337_193 : j_F 337 193 = some (.iload_n 1, 1, 0, 0, .null, .int) := by decide +kernel
theorem jF_337_194 : j_F 337 194 = some (.iastore, 1, 0, 0, .null, .int) := by decide +kernel
theorem jF_337_195 : j_F 337 195 = some (.aload_n 0, 1, 0, 0, .null, .int) := by decide +kernel
theorem jF_337_196 : j_F 337 196 = some (.dup, 1, 0, 0, .null, .int) := by decide +kernel
theorem jF_337_197 : j_F 337 197 = some (.getfield 579, 3, 12, 89, .null, .int) := by decide +kernel
theorem jF_337_200 : j_F 337 200 = some (.iconst 1, 1, 0, 0, .null, .int) := by decide +kernel
theorem jF_337_201 : j_F 337 201 = some (.iadd, 1, 0, 0, .null, .int) := by decide +kernel
theorem jF_337_202 : j_F 337 202 = some (.putfield 579, 3, 12, 89, .null, .int) := by decide +kernel
theorem jF_337_205 : j_F 337 205 = some (.iconst 1, 1, 0, 0, .null, .int) := by decide +kernel
theorem jF_337_206 : j_F 337 206 = some (.ireturn, 1, 0, 0, .null, .boolean) := by decide +kernel
theorem jF_337_207 : j_F 337 207 = some (.aload_n 0, 1, 0, 0, .null, .int) := by decide +kernel
theorem jF_337_208 : j_F 337 208 = some (.bipush 43, 2, 0, 0, .null, .int) := by decide +kernel
theorem jF_337_210 : j_F 337 210 = some (.invokevirtual 246, 3, 239, 2, .null, .int) := by decide +kernel
theorem jF_337_213 : j_F 337 213 = some (.ifCond .ne 12, 3, 225, 0, .null, .int) := by decide +kernel
theorem jF_337_216 : j_F 337 216 = some (.aload_n 0, 1, 0, 0, .null, .int) := by decide +kernel
theorem jF_337_217 : j_F 337 217 = some (.bipush 45, 2, 0, 0, .null, .int) := by decide +kernel
theorem jF_337_219 : j_F 337 219 = some (.invokevirtual 246, 3, 239, 2, .null, .int) := by decide +kernel
theorem jF_337_222 : j_F 337 222 = some (.ifCond .eq 86, 3, 308, 0, .null, .int) := by decide +kernel
theorem jF_337_225 : j_F 337 225 = some (.aload_n 0, 1, 0, 0, .null, .int) := by decide +kernel
theorem jF_337_226 : j_F 337 226 = some (.getfield 7, 3, 12, 0, .null, (.array .int)) := by decide +kernel
theorem jF_337_229 : j_F 337 229 = some (.aload_n 0, 1, 0, 0, .null, .int) := by decide +kernel
theorem jF_337_230 : j_F 337 230 = some (.getfield 218, 3, 12, 2, .null, .int) := by decide +kernel
theorem jF_337_233 : j_F 337 233 = some (.iconst 1, 1, 0, 0, .null, .int) := by decide +kernel
theorem jF_337_234 : j_F 337 234 = some (.isub, 1, 0, 0, .null, .int) := by decide +kernel
theorem jF_337_235 : j_F 337 235 = some (.iaload, 1, 0, 0, .null, .int) := by decide +kernel
theorem jF_337_236 : j_F 337 236 = some (.bipush 43, 2, 0, 0, .null, .int) := by decide +kernel
theorem jF_337_238 : j_F 337 238 = some (.if_icmp .ne 7, 3, 245, 0, .null, .int) := by decide +kernel
theorem jF_337_241 : j_F 337 241 = some (.iconst 1, 1, 0, 0, .null, .int) := by decide +kernel
theorem jF_337_242 : j_F 337 242 = some (.goto 4, 3, 246, 0, .null, .int) := by decide +kernel
theorem jF_337_245 : j_F 337 245 = some (.iconst 2, 1, 0, 0, .null, .int) := by decide +kernel
theorem jF_337_246 : j_F 337 246 = some (.istore_n 1, 1, 0, 0, .null, .int) := by decide +kernel
theorem jF_337_247 : j_F 337 247 = some (.aload_n 0, 1, 0, 0, .null, .int) := by decide +kernel
theorem jF_337_248 : j_F 337 248 = some (.iconst 3, 1, 0, 0, .null, .int) := by decide +kernel
theorem jF_337_249 : j_F 337 249 = some (.invokevirtual 615, 3, 341, 2, .null, .int) := by decide +kernel
theorem jF_337_252 : j_F 337 252 = some (.ifCond .ne 27, 3, 279, 0, .null, .int) := by decide +kernel
theorem jF_337_255 : j_F 337 255 = some (.aload_n 0, 1, 0, 0, .null, .int) := by decide +kernel
theorem jF_337_256 : j_F 337 256 = some (.iconst 4, 1, 0, 0, .null, .int) := by decide +kernel
theorem jF_337_257 : j_F 337 257 = some (.invokevirtual 615, 3, 341, 2, .null, .int) := by decide +kernel
theorem jF_337_260 : j_F 337 260 = some (.ifCond .ne 19, 3, 279, 0, .null, .int) := by decide +kernel
theorem jF_337_263 : j_F 337 263 = some (.aload_n 0, 1, 0, 0, .null, .int) := by decide +kernel
theorem jF_337_264 : j_F 337 264 = some (.iconst 1, 1, 0, 0, .null, .int) := by decide +kernel
theorem jF_337_265 : j_F 337 265 = some (.invokevirtual 615, 3, 341, 2, .null, .int) := by decide +kernel
theorem jF_337_268 : j_F 337 268 = some (.ifCond .ne 11, 3, 279, 0, .null, .int) := by decide +kernel
theorem jF_337_271 : j_F 337 271 = some (.aload_n 0, 1, 0, 0, .null, .int) := by decide +kernel
theorem jF_337_272 : j_F 337 272 = some (.iconst 2, 1, 0, 0, .null, .int) := by decide +kernel
theorem jF_337_273 : j_F 337 273 = some (.invokevirtual 615, 3, 341, 2, .null, .int) := by decide +kernel
theorem jF_337_276 : j_F 337 276 = some (.ifCond .eq 10, 3, 286, 0, .null, .int) := by decide +kernel
theorem jF_337_279 : j_F 337 279 = some (.aload_n 0, 1, 0, 0, .null, .int) := by decide +kernel
theorem jF_337_280 : j_F 337 280 = some (.invokevirtual 591, 3, 336, 1, .null, .int) := by decide +kernel
theorem jF_337_283 : j_F 337 283 = some (.goto (-36), 3, 247, 0, .null, .int) := by decide +kernel
theorem jF_337_286 : j_F 337 286 = some (.aload_n 0, 1, 0, 0, .null, .int) := by decide +kernel
theorem jF_337_287 : j_F 337 287 = some (.getfield 200, 3, 12, 88, .null, (.array .int)) := by decide +kernel
theorem jF_337_290 : j_F 337 290 = some (.aload_n 0, 1, 0, 0, .null, .int) := by decide +kernel
theorem jF_337_291 : j_F 337 291 = some (.getfield 579, 3, 12, 89, .null, .int) := by decide +kernel
theorem jF_337_294 : j_F 337 294 = some (.iload_n 1, 1, 0, 0, .null, .int) := by decide +kernel
theorem jF_337_295 : j_F 337 295 = some (.iastore, 1, 0, 0, .null, .int) := by decide +kernel
theorem jF_337_296 : j_F 337 296 = some (.aload_n 0, 1, 0, 0, .null, .int) := by decide +kernel
theorem jF_337_297 : j_F 337 297 = some (.dup, 1, 0, 0, .null, .int) := by decide +kernel
theorem jF_337_298 : j_F 337 298 = some (.getfield 579, 3, 12, 89, .null, .int) := by decide +kernel
theorem jF_337_301 : j_F 337 301 = some (.iconst 1, 1, 0, 0, .null, .int) := by decide +kernel
theorem jF_337_302 : j_F 337 302 = some (.iadd, 1, 0, 0, .null, .int) := by decide +kernel
theorem jF_337_303 : j_F 337 303 = some (.putfield 579, 3, 12, 89, .null, .int) := by decide +kernel
theorem jF_337_306 : j_F 337 306 = some (.iconst 1, 1, 0, 0, .null, .int) := by decide +kernel
theorem jF_337_307 : j_F 337 307 = some (.ireturn, 1, 0, 0, .null, .boolean) := by decide +kernel
theorem jF_337_308 : j_F 337 308 = some (.aload_n 0, 1, 0, 0, .null, .int) := by decide +kernel
theorem jF_337_309 : j_F 337 309 = some (.invokevirtual 609, 3, 338, 1, .null, .int) := by decide +kernel
theorem jF_337_312 : j_F 337 312 = some (.bipush 21, 2, 0, 0, .null, .int) := by decide +kernel
theorem jF_337_314 : j_F 337 314 = some (.if_icmp .eq 12, 3, 326, 0, .null, .int) := by decide +kernel
theorem jF_337_317 : j_F 337 317 = some (.aload_n 0, 1, 0, 0, .null, .int) := by decide +kernel
theorem jF_337_318 : j_F 337 318 = some (.invokevirtual 609, 3, 338, 1, .null, .int) := by decide +kernel
theorem jF_337_321 : j_F 337 321 = some (.bipush 22, 2, 0, 0, .null, .int) := by decide +kernel
theorem jF_337_323 : j_F 337 323 = some (.if_icmp .ne 39, 3, 362, 0, .null, .int) := by decide +kernel
theorem jF_337_326 : j_F 337 326 = some (.aload_n 0, 1, 0, 0, .null, .int) := by decide +kernel
theorem jF_337_327 : j_F 337 327 = some (.bipush 44, 2, 0, 0, .null, .int) := by decide +kernel
theorem jF_337_329 : j_F 337 329 = some (.invokevirtual 322, 3, 238, 2, .null, .int) := by decide +kernel
theorem jF_337_332 : j_F 337 332 = some (.aload_n 0, 1, 0, 0, .null, .int) := by decide +kernel
theorem jF_337_333 : j_F 337 333 = some (.getfield 212, 3, 12, 5, .null, .int) := by decide +kernel
theorem jF_337_336 : j_F 337 336 = some (.ifCond .eq 5, 3, 341, 0, .null, .int) := by decide +kernel
theorem jF_337_339 : j_F 337 339 = some (.iconst 0, 1, 0, 0, .null, .int) := by decide +kernel
theorem jF_337_340 : j_F 337 340 = some (.ireturn, 1, 0, 0, .null, .boolean) := by decide +kernel
theorem jF_337_341 : j_F 337 341 = some (.aload_n 0, 1, 0, 0, .null, .int) := by decide +kernel
theorem jF_337_342 : j_F 337 342 = some (.invokevirtual 612, 3, 340, 1, .null, .int) := by decide +kernel
theorem jF_337_345 : j_F 337 345 = some (.aload_n 0, 1, 0, 0, .null, .int) := by decide +kernel
theorem jF_337_346 : j_F 337 346 = some (.getfield 200, 3, 12, 88, .null, (.array .int)) := by decide +kernel
theorem jF_337_349 : j_F 337 349 = some (.aload_n 0, 1, 0, 0, .null, .int) := by decide +kernel
theorem jF_337_350 : j_F 337 350 = some (.getfield 579, 3, 12, 89, .null, .int) := by decide +kernel
theorem jF_337_353 : j_F 337 353 = some (.iconst 1, 1, 0, 0, .null, .int) := by decide +kernel
theorem jF_337_354 : j_F 337 354 = some (.isub, 1, 0, 0, .null, .int) := by decide +kernel
theorem jF_337_355 : j_F 337 355 = some (.dup2, 1, 0, 0, .null, .int) := by decide +kernel
theorem jF_337_356 : j_F 337 356 = some (.iaload, 1, 0, 0, .null, .int) := by decide +kernel
theorem jF_337_357 : j_F 337 357 = some (.iconst 2, 1, 0, 0, .null, .int) := by decide +kernel
theorem jF_337_358 : j_F 337 358 = some (.iadd, 1, 0, 0, .null, .int) := by decide +kernel
theorem jF_337_359 : j_F 337 359 = some (.iastore, 1, 0, 0, .null, .int) := by decide +kernel
theorem jF_337_360 : j_F 337 360 = some (.iconst 1, 1, 0, 0, .null, .int) := by decide +kernel
theorem jF_337_361 : j_F 337 361 = some (.ireturn, 1, 0, 0, .null, .boolean) := by decide +kernel
theorem jF_337_362 : j_F 337 362 = some (.aload_n 0, 1, 0, 0, .null, .int) := by decide +kernel
theorem jF_337_363 : j_F 337 363 = some (.invokevirtual 609, 3, 338, 1, .null, .int) := by decide +kernel
theorem jF_337_366 : j_F 337 366 = some (.iconst (-1), 1, 0, 0, .null, .int) := by decide +kernel
theorem jF_337_367 : j_F 337 367 = some (.if_icmp .eq 19, 3, 386, 0, .null, .int) := by decide +kernel
theorem jF_337_370 : j_F 337 370 = some (.aload_n 0, 1, 0, 0, .null, .int) := by decide +kernel
theorem jF_337_371 : j_F 337 371 = some (.getfield 212, 3, 12, 5, .null, .int) := by decide +kernel
theorem jF_337_374 : j_F 337 374 = some (.ifCond .ne 12, 3, 386, 0, .null, .int) := by decide +kernel
theorem jF_337_377 : j_F 337 377 = some (.aload_n 0, 1, 0, 0, .null, .int) := by decide +kernel
theorem jF_337_378 : j_F 337 378 = some (.iconst 1, 1, 0, 0, .null, .int) := by decide +kernel
theorem jF_337_379 : j_F 337 379 = some (.aload_n 0, 1, 0, 0, .null, .int) := by decide +kernel
theorem jF_337_380 : j_F 337 380 = some (.getfield 218, 3, 12, 2, .null, .int) := by decide +kernel
theorem jF_337_383 : j_F 337 383 = some (.invokevirtual 242, 3, 218, 3, .null, .int) := by decide +kernel
theorem jF_337_386 : j_F 337 386 = some (.iconst 0, 1, 0, 0, .null, .int) := by decide +kernel
theorem jF_337_387 : j_F 337 387 = some (.ireturn, 1, 0, 0, .null, .boolean) := by decide +kernel
theorem jF_342_0 : j_F 342 0 = some (.aload_n 0, 1, 0, 0, .null, .int) := by decide +kernel
theorem jF_342_1 : j_F 342 1 = some (.getfield 212, 3, 12, 5, .null, .int) := by decide +kernel
theorem jF_342_4 : j_F 342 4 = some (.ifCond .ne 29, 3, 33, 0, .null, .int) := by decide +kernel
theorem jF_342_7 : j_F 342 7 = some (.aload_n 0, 1, 0, 0, .null, .int) := by decide +kernel
theorem jF_342_8 : j_F 342 8 = some (.bipush 12, 2, 0, 0, .null, .int) := by decide +kernel
theorem jF_342_10 : j_F 342 10 = some (.invokevirtual 615, 3, 341, 2, .null, .int) := by decide +kernel
theorem jF_342_13 : j_F 342 13 = some (.ifCond .eq 20, 3, 33, 0, .null, .int) := by decide +kernel
theorem jF_342_16 : j_F 342 16 = some (.aload_n 0, 1, 0, 0, .null, .int) := by decide +kernel
theorem jF_342_17 : j_F 342 17 = some (.dup, 1, 0, 0, .null, .int) := by decide +kernel
theorem jF_342_18 : j_F 342 18 = some (.getfield 576, 3, 12, 90, .null, .int) := by decide +kernel
theorem jF_342_21 : j_F 342 21 = some (.iconst 1, 1, 0, 0, .null, .int) := by decide +kernel
theorem jF_342_22 : j_F 342 22 = some (.isub, 1, 0, 0, .null, .int) := by decide +kernel
theorem jF_342_23 : j_F 342 23 = some (.putfield 576, 3, 12, 90, .null, .int) := by decide +kernel
theorem jF_342_26 : j_F 342 26 = some (.aload_n 0, 1, 0, 0, .null, .int) := by decide +kernel
theorem jF_342_27 : j_F 342 27 = some (.invokevirtual 591, 3, 336, 1, .null, .int) := by decide +kernel
theorem jF_342_30 : j_F 342 30 = some (.goto (-30), 3, 0, 0, .null, .int) := by decide +kernel
theorem jF_342_33 : j_F 342 33 = some (.return_, 1, 0, 0, .null, .int) := by decide +kernel
theorem jF_343_0 : j_F 343 0 = some (.aload_n 0, 1, 0, 0, .null, .int) := by decide +kernel
theorem jF_343_1 : j_F 343 1 = some (.getfield 212, 3, 12, 5, .null, .int) := by decide +kernel
theorem jF_343_4 : j_F 343 4 = some (.ifCond .ne 72, 3, 76, 0, .null, .int) := by decide +kernel
theorem jF_343_7 : j_F 343 7 = some (.aload_n 0, 1, 0, 0, .null, .int) := by decide +kernel
theorem jF_343_8 : j_F 343 8 = some (.invokevirtual 224, 3, 216, 1, .null, .int) := by decide +kernel
theorem jF_343_11 : j_F 343 11 = some (.bipush 93, 2, 0, 0, .null, .int) := by decide +kernel
theorem jF_343_13 : j_F 343 13 = some (.if_icmp .ne 63, 3, 76, 0, .null, .int) := by decide +kernel
theorem jF_343_16 : j_F 343 16 = some (.aload_n 0, 1, 0, 0, .null, .int) := by decide +kernel
theorem jF_343_17 : j_F 343 17 = some (.invokevirtual 636, 3, 344, 1, .null, .int) := by decide +kernel
theorem jF_343_20 : j_F 343 20 = some (.ifCond .eq 56, 3, 76, 0, .null, .int) := by decide +kernel
theorem jF_343_23 : j_F 343 23 = some (.aload_n 0, 1, 0, 0, .null, .int) := by decide +kernel
theorem jF_343_24 : j_F 343 24 = some (.dup, 1, 0, 0, .null, .int) := by decide +kernel
theorem jF_343_25 : j_F 343 25 = some (.getfield 218, 3, 12, 2, .null, .int) := by decide +kernel
theorem jF_343_28 : j_F 343 28 = some (.iconst 1, 1, 0, 0, .null, .int) := by decide +kernel
theorem jF_343_29 : j_F 343 29 = some (.iadd, 1, 0, 0, .null, .int) := by decide +kernel
theorem jF_343_30 : j_F 343 30 = some (.putfield 218, 3, 12, 2, .null, .int) := by decide +kernel
theorem jF_343_33 : j_F 343 33 = some (.aload_n 0, 1, 0, 0, .null, .int) := by decide +kernel
theorem jF_343_34 : j_F 343 34 = some (.bipush 25, 2, 0, 0, .null, .int) := by decide +kernel
theorem jF_343_36 : j_F 343 36 = some (.invokevirtual 615, 3, 341, 2, .null, .int) := by decide +kernel
theorem jF_343_39 : j_F 343 39 = some (.ifCond .ne 10, 3, 49, 0, .null, .int) := by decide +kernel
theorem jF_343_42 : j_F 343 42 = some (.aload_n 0, 1, 0, 0, .null, .int) := by decide +kernel
theorem jF_343_43 : j_F 343 43 = some (.invokevirtual 591, 3, 336, 1, .null, .int) := by decide +kernel
theorem jF_343_46 : j_F 343 46 = some (.goto (-13), 3, 33, 0, .null, .int) := by decide +kernel
theorem jF_343_49 : j_F 343 49 = some (.aload_n 0, 1, 0, 0, .null, .int) := by decide +kernel
theorem jF_343_50 : j_F 343 50 = some (.dup, 1, 0, 0, .null, .int) := by decide +kernel
theorem jF_343_51 : j_F 343 51 = some (.getfield 579, 3, 12, 89, .null, .int) := by decide +kernel
theorem jF_343_54 : j_F 343 54 = some (.iconst 1, 1, 0, 0, .null, .int) := by decide +kernel
theorem jF_343_55 : j_F 343 55 = some (.isub, 1, 0, 0, .null, .int) := by decide +kernel
theorem jF_343_56 : j_F 343 56 = some (.putfield 579, 3, 12, 89, .null, .int) := by decide +kernel
theorem jF_343_59 : j_F 343 59 = some (.aload_n 0, 1, 0, 0, .null, .int) := by decide +kernel
theorem jF_343_60 : j_F 343 60 = some (.dup, 1, 0, 0, .null, .int) := by decide +kernel
theorem jF_343_61 : j_F 343 61 = some (.getfield 576, 3, 12, 90, .null, .int) := by decide +kernel
theorem jF_343_64 : j_F 343 64 = some (.iconst 1, 1, 0, 0, .null, .int) := by decide +kernel
theorem jF_343_65 : j_F 343 65 = some (.isub, 1, 0, 0, .null, .int) := by decide +kernel
theorem jF_343_66 : j_F 343 66 = some (.putfield 576, 3, 12, 90, .null, .int) := by decide +kernel
theorem jF_343_69 : j_F 343 69 = some (.aload_n 0, 1, 0, 0, .null, .int) := by decide +kernel
theorem jF_343_70 : j_F 343 70 = some (.invokevirtual 630, 3, 342, 1, .null, .int) := by decide +kernel
theorem jF_343_73 : j_F 343 73 = some (.goto (-73), 3, 0, 0, .null, .int) := by decide +kernel
theorem jF_343_76 : j_F 343 76 = some (.aload_n 0, 1, 0, 0, .null, .int) := by decide +kernel
theorem jF_343_77 : j_F 343 77 = some (.aload_n 0, 1, 0, 0, .null, .int) := by decide +kernel
theorem jF_343_78 : j_F 343 78 = some (.getfield 161, 3, 12, 74, .null, (.array .char)) := by decide +kernel
theorem jF_343_81 : j_F 343 81 = some (.invokevirtual 239, 3, 219, 2, .null, .int) := by decide +kernel
theorem jF_343_84 : j_F 343 84 = some (.ifCond .eq 42, 3, 126, 0, .null, .int) := by decide +kernel
theorem jF_343_87 : j_F 343 87 = some (.aload_n 0, 1, 0, 0, .null, .int) := by decide +kernel
theorem jF_343_88 : j_F 343 88 = some (.bipush 10, 2, 0, 0, .null, .int) := by decide +kernel
theorem jF_343_90 : j_F 343 90 = some (.invokevirtual 615, 3, 341, 2, .null, .int) := by decide +kernel
theorem jF_343_93 : j_F 343 93 = some (.ifCond .eq 10, 3, 103, 0, .null, .int) := by decide +kernel
theorem jF_343_96 : j_F 343 96 = some (.aload_n 0, 1, 0, 0, .null, .int) := by decide +kernel
theorem jF_343_97 : j_F 343 97 = some (.invokevirtual 591, 3, 336, 1, .null, .int) := by decide +kernel
theorem jF_343_100 : j_F 343 100 = some (.goto (-13), 3, 87, 0, .null, .int) := by decide +kernel
theorem jF_343_103 : j_F 343 103 = some (.aload_n 0, 1, 0, 0, .null, .int) := by decide +kernel
theorem jF_343_104 : j_F 343 104 = some (.getfield 200, 3, 12, 88, .null, (.array .int)) := by decide +kernel
theorem jF_343_107 : j_F 343 107 = some (.aload_n 0, 1, 0, 0, .null, .int) := by decide +kernel
theorem jF_343_108 : j_F 343 108 = some (.getfield 579, 3, 12, 89, .null, .int) := by decide +kernel
theorem jF_343_111 : j_F 343 111 = some (.bipush 10, 2, 0, 0, .null, .int) := by decide +kernel
theorem jF_343_113 : j_F 343 113 = some (.iastore, 1, 0, 0, .null, .int) := by decide +kernel
theorem jF_343_114 : j_F 343 114 = some (.aload_n 0, 1, 0, 0, .null, .int) := by decide +kernel
theorem jF_343_115 : j_F 343 115 = some (.dup, 1, 0, 0, .null, .int) := by decide +kernel
theorem jF_343_116 : j_F 343 116 = some (.getfield 579, 3, 12, 89, .null, .int) := by decide +kernel
theorem jF_343_119 : j_F 343 119 = some (.iconst 1, 1, 0, 0, .null, .int) := by decide +kernel
theorem jF_343_120 : j_F 343 120 = some (.iadd, 1, 0, 0, .null, .int) := by decide +kernel
theorem jF_343_121 : j_F 343 121 = some (.putfield 579, 3, 12, 89, .null, .int) := by decide +kernel
theorem jF_343_124 : j_F 343 124 = some (.iconst 1, 1, 0, 0, .null, .int) := by decide +kernel
theorem jF_343_125 : j_F 343 125 = some (.ireturn, 1, 0, 0, .null, .boolean) := by decide +kernel
theorem jF_343_126 : j_F 343 126 = some (.aload_n 0, 1, 0, 0, .null, .int) := by decide +kernel
theorem jF_343_127 : j_F 343 127 = some (.aload_n 0, 1, 0, 0, .null, .int) := by decide +kernel
theorem jF_343_128 : j_F 343 128 = some (.getfield 164, 3, 12, 75, .null, (.array .char)) := by decide +kernel
theorem jF_343_131 : j_F 343 131 = some (.invokevirtual 239, 3, 219, 2, .null, .int) := by decide +kernel
theorem jF_343_134 : j_F 343 134 = some (.ifCond .eq 51, 3, 185, 0, .null, .int) := by decide +kernel
theorem jF_343_137 : j_F 343 137 = some (.aload_n 0, 1, 0, 0, .null, .int) := by decide +kernel
theorem jF_343_138 : j_F 343 138 = some (.bipush 10, 2, 0, 0, .null, .int) := by decide +kernel
theorem jF_343_140 : j_F 343 140 = some (.invokevirtual 615, 3, 341, 2, .null, .int) := by decide +kernel
theorem jF_343_143 : j_F 343 143 = some (.ifCond .ne 12, 3, 155, 0, .null, .int) := by decide +kernel
theorem jF_343_146 : j_F 343 146 = some (.aload_n 0, 1, 0, 0, .null, .int) := by decide +kernel
theorem jF_343_147 : j_F 343 147 = some (.bipush 11, 2, 0, 0, .null, .int) := by decide +kernel
theorem jF_343_149 : j_F 343 149 = some (.invokevirtual 615, 3, 341, 2, .null, .int) := by decide +kernel
theorem jF_343_152 : j_F 343 152 = some (.ifCond .eq 10, 3, 162, 0, .null, .int) := by decide +kernel
theorem jF_343_155 : j_F 343 155 = some (.aload_n 0, 1, 0, 0, .null, .int) := by decide +kernel
theorem jF_343_156 : j_F 343 156 = some (.invokevirtual 591, 3, 336, 1, .null, .int) := by decide +kernel
theorem jF_343_159 : j_F 343 159 = some (.goto (-22), 3, 137, 0, .null, .int) := by decide +kernel
theorem jF_343_162 : j_F 343 162 = some (.aload_n 0, 1, 0, 0, .null, .int) := by decide +kernel
theorem jF_343_163 : j_F 343 163 = some (.getfield 200, 3, 12, 88, .null, (.array .int)) := by decide +kernel
theorem jF_343_166 : j_F 343 166 = some (.aload_n 0, 1, 0, 0, .null, .int) := by decide +kernel
theorem jF_343_167 : j_F 343 167 = some (.getfield 579, 3, 12, 89, .null, .int) := by decide +kernel
theorem jF_343_170 : j_F 343 170 = some (.bipush 11, 2, 0, 0, .null, .int) := by decide +kernel
theorem jF_343_172 : j_F 343 172 = some (.iastore, 1, 0, 0, .null, .int) := by decide +kernel
theorem jF_343_173 : j_F 343 173 = some (.aload_n 0, 1, 0, 0, .null, .int) := by decide +kernel
theorem jF_343_174 : j_F 343 174 = some (.dup, 1, 0, 0, .null, .int) := by decide +kernel
theorem jF_343_175 : j_F 343 175 = some (.getfield 579, 3, 12, 89, .null, .int) := by decide +kernel
theorem jF_343_178 : j_F 343 178 = some (.iconst 1, 1, 0, 0, .null, .int) := by decide +kernel
theorem jF_343_179 : j_F 343 179 = some (.iadd, 1, 0, 0, .null, .int) := by decide +kernel
theorem jF_343_180 : j_F 343 180 = some (.putfield 579, 3, 12, 89, .null, .int) := by decide +kernel
theorem jF_343_183 : j_F 343 183 = some (.iconst 1, 1, 0, 0, .null, .int) := by decide +kernel
theorem jF_343_184 : j_F 343 184 = some (.ireturn, 1, 0, 0, .null, .boolean) := by decide +kernel
theorem jF_343_185 : j_F 343 185 = some (.aload_n 0, 1, 0, 0, .null, .int) := by decide +kernel
theorem jF_343_186 : j_F 343 186 = some (.getfield 212, 3, 12, 5, .null, .int) := by decide +kernel
theorem jF_343_189 : j_F 343 189 = some (.ifCond .ne 19, 3, 208, 0, .null, .int) := by decide +kernel
theorem jF_343_192 : j_F 343 192 = some (.aload_n 0, 1, 0, 0, .null, .int) := by decide +kernel
theorem jF_343_193 : j_F 343 193 = some (.invokevirtual 636, 3, 344, 1, .null, .int) := by decide +kernel
theorem jF_343_196 : j_F 343 196 = some (.ifCond .eq 12, 3, 208, 0, .null, .int) := by decide +kernel
theorem jF_343_199 : j_F 343 199 = some (.aload_n 0, 1, 0, 0, .null, .int) := by decide +kernel
theorem jF_343_200 : j_F 343 200 = some (.iconst 1, 1, 0, 0, .null, .int) := by decide +kernel
theorem jF_343_201 : j_F 343 201 = some (.aload_n 0, 1, 0, 0, .null, .int) := by decide +kernel
theorem jF_343_202 : j_F 343 202 = some (.getfield 218, 3, 12, 2, .null, .int) := by decide +kernel
theorem jF_343_205 : j_F 343 205 = some (.invokevirtual 242, 3, 218, 3, .null, .int) := by decide +kernel
theorem jF_343_208 : j_F 343 208 = some (.iconst 0, 1, 0, 0, .null, .int) := by decide +kernel
theorem jF_343_209 : j_F 343 209 = some (.ireturn, 1, 0, 0, .null, .boolean) := by decide +kernel
theorem jF_344_0 : j_F 344 0 = some (.iconst 0, 1, 0, 0, .null, .int) := by decide +kernel
theorem jF_344_1 : j_F 344 1 = some (.istore_n 1, 1, 0, 0, .null, .int) := by decide +kernel
theorem jF_344_2 : j_F 344 2 = some (.iload_n 1, 1, 0, 0, .null, .int) := by decide +kernel
theorem jF_344_3 : j_F 344 3 = some (.aload_n 0, 1, 0, 0, .null, .int) := by decide +kernel
theorem jF_344_4 : j_F 344 4 = some (.getfield 579, 3, 12, 89, .null, .int) := by decide +kernel
theorem jF_344_7 : j_F 344 7 = some (.if_icmp .ge 22, 3, 29, 0, .null, .int) := by decide +kernel
theorem jF_344_10 : j_F 344 10 = some (.aload_n 0, 1, 0, 0, .null, .int) := by decide +kernel
theorem jF_344_11 : j_F 344 11 = some (.getfield 200, 3, 12, 88, .null, (.array .int)) := by decide +kernel
theorem jF_344_14 : j_F 344 14 = some (.iload_n 1, 1, 0, 0, .null, .int) := by decide +kernel
theorem jF_344_15 : j_F 344 15 = some (.iaload, 1, 0, 0, .null, .int) := by decide +kernel
theorem jF_344_16 : j_F 344 16 = some (.bipush 25, 2, 0, 0, .null, .int) := by decide +kernel
theorem jF_344_18 : j_F 344 18 = some (.if_icmp .ne 5, 3, 23, 0, .null, .int) := by decide +kernel
theorem jF_344_21 : j_F 344 21 = some (.iconst 1, 1, 0, 0, .null, .int) := by decide +kernel
theorem jF_344_22 : j_F 344 22 = some (.ireturn, 1, 0, 0, .null, .boolean) := by decide +kernel
theorem jF_344_23 : j_F 344 23 = some (.iinc 1 1, 3, 0, 0, .null, .int) := by decide +kernel
theorem jF_344_26 : j_F 344 26 = some (.goto (-24), 3, 2, 0, .null, .int) := by decide +kernel
theorem jF_344_29 : j_F 344 29 = some (.iconst 0, 1, 0, 0, .null, .int) := by decide +kernel
theorem jF_344_30 : j_F 344 30 = some (.ireturn, 1, 0, 0, .null, .boolean) := by decide +kernel
