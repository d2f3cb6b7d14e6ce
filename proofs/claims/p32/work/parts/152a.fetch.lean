/-! CODE. -/
theorem jF_212_0 : j_F 212 0 = some (.aload_n 0, 1, 0, 0, .null, .int) := by decide +kernel
theorem jF_212_1 : j_F 212 1 = some (.getfield 209, 3, 12, 1, .null, .int) := by decide +kernel
theorem jF_212_4 : j_F 212 4 = some (.bipush 20, 2, 0, 0, .null, .int) := by decide +kernel
theorem jF_212_6 : j_F 212 6 = some (.iadd, 1, 0, 0, .null, .int) := by decide +kernel
theorem jF_212_7 : j_F 212 7 = some (.sipush 1600, 3, 0, 0, .null, .int) := by decide +kernel
theorem jF_212_10 : j_F 212 10 = some (.if_icmp .le 15, 3, 25, 0, .null, .int) := by decide +kernel
theorem jF_212_13 : j_F 212 13 = some (.aload_n 0, 1, 0, 0, .null, .int) := by decide +kernel
theorem jF_212_14 : j_F 212 14 = some (.getfield 17, 3, 12, 9, .null, (.array .int)) := by decide +kernel
theorem jF_212_17 : j_F 212 17 = some (.iconst 0, 1, 0, 0, .null, .int) := by decide +kernel
theorem jF_212_18 : j_F 212 18 = some (.dup2, 1, 0, 0, .null, .int) := by decide +kernel
theorem jF_212_19 : j_F 212 19 = some (.iaload, 1, 0, 0, .null, .int) := by decide +kernel
theorem jF_212_20 : j_F 212 20 = some (.iconst 1, 1, 0, 0, .null, .int) := by decide +kernel
theorem jF_212_21 : j_F 212 21 = some (.iadd, 1, 0, 0, .null, .int) := by decide +kernel
theorem jF_212_22 : j_F 212 22 = some (.iastore, 1, 0, 0, .null, .int) := by decide +kernel
theorem jF_212_23 : j_F 212 23 = some (.iconst (-1), 1, 0, 0, .null, .int) := by decide +kernel
theorem jF_212_24 : j_F 212 24 = some (.ireturn, 1, 0, 0, .null, .int) := by decide +kernel
theorem jF_212_25 : j_F 212 25 = some (.iconst 0, 1, 0, 0, .null, .int) := by decide +kernel
theorem jF_212_26 : j_F 212 26 = some (.istore 6, 2, 0, 0, .null, .int) := by decide +kernel
theorem jF_212_28 : j_F 212 28 = some (.iload 6, 2, 0, 0, .null, .int) := by decide +kernel
theorem jF_212_30 : j_F 212 30 = some (.bipush 20, 2, 0, 0, .null, .int) := by decide +kernel
theorem jF_212_32 : j_F 212 32 = some (.if_icmp .ge 92, 3, 124, 0, .null, .int) := by decide +kernel
theorem jF_212_35 : j_F 212 35 = some (.iload 6, 2, 0, 0, .null, .int) := by decide +kernel
theorem jF_212_37 : j_F 212 37 = some (.iconst 4, 1, 0, 0, .null, .int) := by decide +kernel
theorem jF_212_38 : j_F 212 38 = some (.if_icmp .ge 7, 3, 45, 0, .null, .int) := by decide +kernel
theorem jF_212_41 : j_F 212 41 = some (.iload_n 1, 1, 0, 0, .null, .int) := by decide +kernel
theorem jF_212_42 : j_F 212 42 = some (.goto 39, 3, 81, 0, .null, .int) := by decide +kernel
theorem jF_212_45 : j_F 212 45 = some (.iload 6, 2, 0, 0, .null, .int) := by decide +kernel
theorem jF_212_47 : j_F 212 47 = some (.bipush 8, 2, 0, 0, .null, .int) := by decide +kernel
theorem jF_212_49 : j_F 212 49 = some (.if_icmp .ge 7, 3, 56, 0, .null, .int) := by decide +kernel
theorem jF_212_52 : j_F 212 52 = some (.iload_n 2, 1, 0, 0, .null, .int) := by decide +kernel
theorem jF_212_53 : j_F 212 53 = some (.goto 28, 3, 81, 0, .null, .int) := by decide +kernel
theorem jF_212_56 : j_F 212 56 = some (.iload 6, 2, 0, 0, .null, .int) := by decide +kernel
theorem jF_212_58 : j_F 212 58 = some (.bipush 12, 2, 0, 0, .null, .int) := by decide +kernel
theorem jF_212_60 : j_F 212 60 = some (.if_icmp .ge 7, 3, 67, 0, .null, .int) := by decide +kernel
theorem jF_212_63 : j_F 212 63 = some (.iload_n 3, 1, 0, 0, .null, .int) := by decide +kernel
theorem jF_212_64 : j_F 212 64 = some (.goto 17, 3, 81, 0, .null, .int) := by decide +kernel
theorem jF_212_67 : j_F 212 67 = some (.iload 6, 2, 0, 0, .null, .int) := by decide +kernel
theorem jF_212_69 : j_F 212 69 = some (.bipush 16, 2, 0, 0, .null, .int) := by decide +kernel
theorem jF_212_71 : j_F 212 71 = some (.if_icmp .ge 8, 3, 79, 0, .null, .int) := by decide +kernel
theorem jF_212_74 : j_F 212 74 = some (.iload 4, 2, 0, 0, .null, .int) := by decide +kernel
theorem jF_212_76 : j_F 212 76 = some (.goto 5, 3, 81, 0, .null, .int) := by decide +kernel
theorem jF_212_79 : j_F 212 79 = some (.iload 5, 2, 0, 0, .null, .int) := by decide +kernel
theorem jF_212_81 : j_F 212 81 = some (.istore 7, 2, 0, 0, .null, .int) := by decide +kernel
theorem jF_212_83 : j_F 212 83 = some (.aload_n 0, 1, 0, 0, .null, .int) := by decide +kernel
theorem jF_212_84 : j_F 212 84 = some (.getfield 7, 3, 12, 0, .null, (.array .int)) := by decide +kernel
theorem jF_212_87 : j_F 212 87 = some (.aload_n 0, 1, 0, 0, .null, .int) := by decide +kernel
theorem jF_212_88 : j_F 212 88 = some (.getfield 209, 3, 12, 1, .null, .int) := by decide +kernel
theorem jF_212_91 : j_F 212 91 = some (.iload 7, 2, 0, 0, .null, .int) := by decide +kernel
theorem jF_212_93 : j_F 212 93 = some (.bipush 8, 2, 0, 0, .null, .int) := by decide +kernel
theorem jF_212_95 : j_F 212 95 = some (.iconst 3, 1, 0, 0, .null, .int) := by decide +kernel
theorem jF_212_96 : j_F 212 96 = some (.iload 6, 2, 0, 0, .null, .int) := by decide +kernel
theorem jF_212_98 : j_F 212 98 = some (.iconst 4, 1, 0, 0, .null, .int) := by decide +kernel
theorem jF_212_99 : j_F 212 99 = some (.irem, 1, 0, 0, .null, .int) := by decide +kernel
theorem jF_212_100 : j_F 212 100 = some (.isub, 1, 0, 0, .null, .int) := by decide +kernel
theorem jF_212_101 : j_F 212 101 = some (.imul, 1, 0, 0, .null, .int) := by decide +kernel
theorem jF_212_102 : j_F 212 102 = some (.ishr, 1, 0, 0, .null, .int) := by decide +kernel
theorem jF_212_103 : j_F 212 103 = some (.sipush 255, 3, 0, 0, .null, .int) := by decide +kernel
theorem jF_212_106 : j_F 212 106 = some (.iand, 1, 0, 0, .null, .int) := by decide +kernel
theorem jF_212_107 : j_F 212 107 = some (.iastore, 1, 0, 0, .null, .int) := by decide +kernel
theorem jF_212_108 : j_F 212 108 = some (.aload_n 0, 1, 0, 0, .null, .int) := by decide +kernel
theorem jF_212_109 : j_F 212 109 = some (.dup, 1, 0, 0, .null, .int) := by decide +kernel
theorem jF_212_110 : j_F 212 110 = some (.getfield 209, 3, 12, 1, .null, .int) := by decide +kernel
theorem jF_212_113 : j_F 212 113 = some (.iconst 1, 1, 0, 0, .null, .int) := by decide +kernel
theorem jF_212_114 : j_F 212 114 = some (.iadd, 1, 0, 0, .null, .int) := by decide +kernel
theorem jF_212_115 : j_F 212 115 = some (.putfield 209, 3, 12, 1, .null, .int) := by decide +kernel
theorem jF_212_118 : j_F 212 118 = some (.iinc 6 1, 3, 0, 0, .null, .int) := by decide +kernel
theorem jF_212_121 : j_F 212 121 = some (.goto (-93), 3, 28, 0, .null, .int) := by decide +kernel
theorem jF_212_124 : j_F 212 124 = some (.aload_n 0, 1, 0, 0, .null, .int) := by decide +kernel
theorem jF_212_125 : j_F 212 125 = some (.getfield 209, 3, 12, 1, .null, .int) := by decide +kernel
theorem jF_212_128 : j_F 212 128 = some (.ireturn, 1, 0, 0, .null, .int) := by decide +kernel
theorem jF_242_0 : j_F 242 0 = some (.aload_n 0, 1, 0, 0, .null, .int) := by decide +kernel
theorem jF_242_1 : j_F 242 1 = some (.lconst 0, 1, 0, 0, .null, .int) := by decide +kernel
theorem jF_242_2 : j_F 242 2 = some (.putfield 355, 3, 12, 42, .null, .long) := by decide +kernel
theorem jF_242_5 : j_F 242 5 = some (.iconst 0, 1, 0, 0, .null, .int) := by decide +kernel
theorem jF_242_6 : j_F 242 6 = some (.istore_n 1, 1, 0, 0, .null, .int) := by decide +kernel
theorem jF_242_7 : j_F 242 7 = some (.iload_n 1, 1, 0, 0, .null, .int) := by decide +kernel
theorem jF_242_8 : j_F 242 8 = some (.bipush 18, 2, 0, 0, .null, .int) := by decide +kernel
theorem jF_242_10 : j_F 242 10 = some (.if_icmp .ge 16, 3, 26, 0, .null, .int) := by decide +kernel
theorem jF_242_13 : j_F 242 13 = some (.aload_n 0, 1, 0, 0, .null, .int) := by decide +kernel
theorem jF_242_14 : j_F 242 14 = some (.getfield 97, 3, 12, 40, .null, (.array .long)) := by decide +kernel
theorem jF_242_17 : j_F 242 17 = some (.iload_n 1, 1, 0, 0, .null, .int) := by decide +kernel
theorem jF_242_18 : j_F 242 18 = some (.lconst 0, 1, 0, 0, .null, .int) := by decide +kernel
theorem jF_242_19 : j_F 242 19 = some (.lastore, 1, 0, 0, .null, .int) := by decide +kernel
theorem jF_242_20 : j_F 242 20 = some (.iinc 1 1, 3, 0, 0, .null, .int) := by decide +kernel
theorem jF_242_23 : j_F 242 23 = some (.goto (-16), 3, 7, 0, .null, .int) := by decide +kernel
theorem jF_242_26 : j_F 242 26 = some (.iconst 0, 1, 0, 0, .null, .int) := by decide +kernel
theorem jF_242_27 : j_F 242 27 = some (.istore_n 1, 1, 0, 0, .null, .int) := by decide +kernel
theorem jF_242_28 : j_F 242 28 = some (.iload_n 1, 1, 0, 0, .null, .int) := by decide +kernel
theorem jF_242_29 : j_F 242 29 = some (.bipush 34, 2, 0, 0, .null, .int) := by decide +kernel
theorem jF_242_31 : j_F 242 31 = some (.if_icmp .ge 16, 3, 47, 0, .null, .int) := by decide +kernel
theorem jF_242_34 : j_F 242 34 = some (.aload_n 0, 1, 0, 0, .null, .int) := by decide +kernel
theorem jF_242_35 : j_F 242 35 = some (.getfield 100, 3, 12, 41, .null, (.array .long)) := by decide +kernel
theorem jF_242_38 : j_F 242 38 = some (.iload_n 1, 1, 0, 0, .null, .int) := by decide +kernel
theorem jF_242_39 : j_F 242 39 = some (.lconst 0, 1, 0, 0, .null, .int) := by decide +kernel
theorem jF_242_40 : j_F 242 40 = some (.lastore, 1, 0, 0, .null, .int) := by decide +kernel
theorem jF_242_41 : j_F 242 41 = some (.iinc 1 1, 3, 0, 0, .null, .int) := by decide +kernel
theorem jF_242_44 : j_F 242 44 = some (.goto (-16), 3, 28, 0, .null, .int) := by decide +kernel
theorem jF_242_47 : j_F 242 47 = some (.iconst 0, 1, 0, 0, .null, .int) := by decide +kernel
theorem jF_242_48 : j_F 242 48 = some (.istore_n 1, 1, 0, 0, .null, .int) := by decide +kernel
theorem jF_242_49 : j_F 242 49 = some (.iload_n 1, 1, 0, 0, .null, .int) := by decide +kernel
theorem jF_242_50 : j_F 242 50 = some (.aload_n 0, 1, 0, 0, .null, .int) := by decide +kernel
theorem jF_242_51 : j_F 242 51 = some (.invokevirtual 358, 3, 243, 1, .null, .int) := by decide +kernel
theorem jF_242_54 : j_F 242 54 = some (.if_icmp .ge 90, 3, 144, 0, .null, .int) := by decide +kernel
theorem jF_242_57 : j_F 242 57 = some (.aload_n 0, 1, 0, 0, .null, .int) := by decide +kernel
theorem jF_242_58 : j_F 242 58 = some (.dup, 1, 0, 0, .null, .int) := by decide +kernel
theorem jF_242_59 : j_F 242 59 = some (.getfield 355, 3, 12, 42, .null, .long) := by decide +kernel
theorem jF_242_62 : j_F 242 62 = some (.lconst 1, 1, 0, 0, .null, .int) := by decide +kernel
theorem jF_242_63 : j_F 242 63 = some (.iload_n 1, 1, 0, 0, .null, .int) := by decide +kernel
theorem jF_242_64 : j_F 242 64 = some (.lshl, 1, 0, 0, .null, .int) := by decide +kernel
theorem jF_242_65 : j_F 242 65 = some (.lor, 1, 0, 0, .null, .int) := by decide +kernel
theorem jF_242_66 : j_F 242 66 = some (.putfield 355, 3, 12, 42, .null, .long) := by decide +kernel
theorem jF_242_69 : j_F 242 69 = some (.iconst 0, 1, 0, 0, .null, .int) := by decide +kernel
theorem jF_242_70 : j_F 242 70 = some (.istore_n 2, 1, 0, 0, .null, .int) := by decide +kernel
theorem jF_242_71 : j_F 242 71 = some (.iload_n 2, 1, 0, 0, .null, .int) := by decide +kernel
theorem jF_242_72 : j_F 242 72 = some (.iconst 3, 1, 0, 0, .null, .int) := by decide +kernel
theorem jF_242_73 : j_F 242 73 = some (.if_icmp .ge 30, 3, 103, 0, .null, .int) := by decide +kernel
theorem jF_242_76 : j_F 242 76 = some (.aload_n 0, 1, 0, 0, .null, .int) := by decide +kernel
theorem jF_242_77 : j_F 242 77 = some (.getfield 97, 3, 12, 40, .null, (.array .long)) := by decide +kernel
theorem jF_242_80 : j_F 242 80 = some (.iconst 4, 1, 0, 0, .null, .int) := by decide +kernel
theorem jF_242_81 : j_F 242 81 = some (.iload_n 2, 1, 0, 0, .null, .int) := by decide +kernel
theorem jF_242_82 : j_F 242 82 = some (.imul, 1, 0, 0, .null, .int) := by decide +kernel
theorem jF_242_83 : j_F 242 83 = some (.aload_n 0, 1, 0, 0, .null, .int) := by decide +kernel
theorem jF_242_84 : j_F 242 84 = some (.iload_n 1, 1, 0, 0, .null, .int) := by decide +kernel
theorem jF_242_85 : j_F 242 85 = some (.iload_n 2, 1, 0, 0, .null, .int) := by decide +kernel
theorem jF_242_86 : j_F 242 86 = some (.invokevirtual 361, 3, 245, 3, .null, .int) := by decide +kernel
theorem jF_242_89 : j_F 242 89 = some (.iadd, 1, 0, 0, .null, .int) := by decide +kernel
theorem jF_242_90 : j_F 242 90 = some (.dup2, 1, 0, 0, .null, .int) := by decide +kernel
theorem jF_242_91 : j_F 242 91 = some (.laload, 1, 0, 0, .null, .int) := by decide +kernel
theorem jF_242_92 : j_F 242 92 = some (.lconst 1, 1, 0, 0, .null, .int) := by decide +kernel
theorem jF_242_93 : j_F 242 93 = some (.iload_n 1, 1, 0, 0, .null, .int) := by decide +kernel
theorem jF_242_94 : j_F 242 94 = some (.lshl, 1, 0, 0, .null, .int) := by decide +kernel
theorem jF_242_95 : j_F 242 95 = some (.lor, 1, 0, 0, .null, .int) := by decide +kernel
theorem jF_242_96 : j_F 242 96 = some (.lastore, 1, 0, 0, .null, .int) := by decide +kernel
theorem jF_242_97 : j_F 242 97 = some (.iinc 2 1, 3, 0, 0, .null, .int) := by decide +kernel
theorem jF_242_100 : j_F 242 100 = some (.goto (-29), 3, 71, 0, .null, .int) := by decide +kernel
theorem jF_242_103 : j_F 242 103 = some (.iconst 0, 1, 0, 0, .null, .int) := by decide +kernel
theorem jF_242_104 : j_F 242 104 = some (.istore_n 2, 1, 0, 0, .null, .int) := by decide +kernel
theorem jF_242_105 : j_F 242 105 = some (.iload_n 2, 1, 0, 0, .null, .int) := by decide +kernel
theorem jF_242_106 : j_F 242 106 = some (.bipush 34, 2, 0, 0, .null, .int) := by decide +kernel
theorem jF_242_108 : j_F 242 108 = some (.if_icmp .ge 30, 3, 138, 0, .null, .int) := by decide +kernel
theorem jF_242_111 : j_F 242 111 = some (.aload_n 0, 1, 0, 0, .null, .int) := by decide +kernel
theorem jF_242_112 : j_F 242 112 = some (.iload_n 2, 1, 0, 0, .null, .int) := by decide +kernel
theorem jF_242_113 : j_F 242 113 = some (.iload_n 1, 1, 0, 0, .null, .int) := by decide +kernel
theorem jF_242_114 : j_F 242 114 = some (.invokevirtual 364, 3, 246, 3, .null, .int) := by decide +kernel
theorem jF_242_117 : j_F 242 117 = some (.ifCond .eq 15, 3, 132, 0, .null, .int) := by decide +kernel
theorem jF_242_120 : j_F 242 120 = some (.aload_n 0, 1, 0, 0, .null, .int) := by decide +kernel
theorem jF_242_121 : j_F 242 121 = some (.getfield 100, 3, 12, 41, .null, (.array .long)) := by decide +kernel
theorem jF_242_124 : j_F 242 124 = some (.iload_n 2, 1, 0, 0, .null, .int) := by decide +kernel
theorem jF_242_125 : j_F 242 125 = some (.dup2, 1, 0, 0, .null, .int) := by decide +kernel
theorem jF_242_126 : j_F 242 126 = some (.laload, 1, 0, 0, .null, .int) := by decide +kernel
theorem jF_242_127 : j_F 242 127 = some (.lconst 1, 1, 0, 0, .null, .int) := by decide +kernel
theorem jF_242_128 : j_F 242 128 = some (.iload_n 1, 1, 0, 0, .null, .int) := by decide +kernel
theorem jF_242_129 : j_F 242 129 = some (.lshl, 1, 0, 0, .null, .int) := by decide +kernel
theorem jF_242_130 : j_F 242 130 = some (.lor, 1, 0, 0, .null, .int) := by decide +kernel
theorem jF_242_131 : j_F 242 131 = some (.lastore, 1, 0, 0, .null, .int) := by decide +kernel
theorem jF_242_132 : j_F 242 132 = some (.iinc 2 1, 3, 0, 0, .null, .int) := by decide +kernel
theorem jF_242_135 : j_F 242 135 = some (.goto (-30), 3, 105, 0, .null, .int) := by decide +kernel
theorem jF_242_138 : j_F 242 138 = some (.iinc 1 1, 3, 0, 0, .null, .int) := by decide +kernel
theorem jF_242_141 : j_F 242 141 = some (.goto (-92), 3, 49, 0, .null, .int) := by decide +kernel
theorem jF_242_144 : j_F 242 144 = some (.bipush 12, 2, 0, 0, .null, .int) := by decide +kernel
theorem jF_242_146 : j_F 242 146 = some (.istore_n 1, 1, 0, 0, .null, .int) := by decide +kernel
theorem jF_242_147 : j_F 242 147 = some (.iload_n 1, 1, 0, 0, .null, .int) := by decide +kernel
theorem jF_242_148 : j_F 242 148 = some (.bipush 18, 2, 0, 0, .null, .int) := by decide +kernel
theorem jF_242_150 : j_F 242 150 = some (.if_icmp .ge 46, 3, 196, 0, .null, .int) := by decide +kernel
theorem jF_242_153 : j_F 242 153 = some (.aload_n 0, 1, 0, 0, .null, .int) := by decide +kernel
theorem jF_242_154 : j_F 242 154 = some (.getfield 75, 3, 12, 29, .null, (.array .long)) := by decide +kernel
theorem jF_242_157 : j_F 242 157 = some (.bipush 18, 2, 0, 0, .null, .int) := by decide +kernel
theorem jF_242_159 : j_F 242 159 = some (.iload_n 1, 1, 0, 0, .null, .int) := by decide +kernel
theorem jF_242_160 : j_F 242 160 = some (.iadd, 1, 0, 0, .null, .int) := by decide +kernel
theorem jF_242_161 : j_F 242 161 = some (.laload, 1, 0, 0, .null, .int) := by decide +kernel
theorem jF_242_162 : j_F 242 162 = some (.lconst 0, 1, 0, 0, .null, .int) := by decide +kernel
theorem jF_242_163 : j_F 242 163 = some (.lcmp, 1, 0, 0, .null, .int) := by decide +kernel
theorem jF_242_164 : j_F 242 164 = some (.ifCond .eq 26, 3, 190, 0, .null, .int) := by decide +kernel
theorem jF_242_167 : j_F 242 167 = some (.aload_n 0, 1, 0, 0, .null, .int) := by decide +kernel
theorem jF_242_168 : j_F 242 168 = some (.getfield 97, 3, 12, 40, .null, (.array .long)) := by decide +kernel
theorem jF_242_171 : j_F 242 171 = some (.iload_n 1, 1, 0, 0, .null, .int) := by decide +kernel
theorem jF_242_172 : j_F 242 172 = some (.aload_n 0, 1, 0, 0, .null, .int) := by decide +kernel
theorem jF_242_173 : j_F 242 173 = some (.getfield 97, 3, 12, 40, .null, (.array .long)) := by decide +kernel
theorem jF_242_176 : j_F 242 176 = some (.aload_n 0, 1, 0, 0, .null, .int) := by decide +kernel
theorem jF_242_177 : j_F 242 177 = some (.getfield 79, 3, 12, 30, .null, (.array .int)) := by decide +kernel
theorem jF_242_180 : j_F 242 180 = some (.bipush 6, 2, 0, 0, .null, .int) := by decide +kernel
theorem jF_242_182 : j_F 242 182 = some (.iload_n 1, 1, 0, 0, .null, .int) := by decide +kernel
theorem jF_242_183 : j_F 242 183 = some (.iadd, 1, 0, 0, .null, .int) := by decide +kernel
theorem jF_242_184 : j_F 242 184 = some (.bipush 12, 2, 0, 0, .null, .int) := by decide +kernel
theorem jF_242_186 : j_F 242 186 = some (.isub, 1, 0, 0, .null, .int) := by decide +kernel
theorem jF_242_187 : j_F 242 187 = some (.iaload, 1, 0, 0, .null, .int) := by decide +kernel
theorem jF_242_188 : j_F 242 188 = some (.laload, 1, 0, 0, .null, .int) := by decide +kernel
theorem jF_242_189 : j_F 242 189 = some (.lastore, 1, 0, 0, .null, .int) := by decide +kernel
theorem jF_242_190 : j_F 242 190 = some (.iinc 1 1, 3, 0, 0, .null, .int) := by decide +kernel
theorem jF_242_193 : j_F 242 193 = some (.goto (-46), 3, 147, 0, .null, .int) := by decide +kernel
theorem jF_242_196 : j_F 242 196 = some (.return_, 1, 0, 0, .null, .int) := by decide +kernel
theorem jF_246_0 : j_F 246 0 = some (.iconst 0, 1, 0, 0, .null, .int) := by decide +kernel
theorem jF_246_1 : j_F 246 1 = some (.istore_n 3, 1, 0, 0, .null, .int) := by decide +kernel
theorem jF_246_2 : j_F 246 2 = some (.iload_n 3, 1, 0, 0, .null, .int) := by decide +kernel
theorem jF_246_3 : j_F 246 3 = some (.iconst 3, 1, 0, 0, .null, .int) := by decide +kernel
theorem jF_246_4 : j_F 246 4 = some (.if_icmp .ge 54, 3, 58, 0, .null, .int) := by decide +kernel
theorem jF_246_7 : j_F 246 7 = some (.aload_n 0, 1, 0, 0, .null, .int) := by decide +kernel
theorem jF_246_8 : j_F 246 8 = some (.getfield 88, 3, 12, 35, .null, (.array .int)) := by decide +kernel
theorem jF_246_11 : j_F 246 11 = some (.sipush 204, 3, 0, 0, .null, .int) := by decide +kernel
theorem jF_246_14 : j_F 246 14 = some (.bipush 6, 2, 0, 0, .null, .int) := by decide +kernel
theorem jF_246_16 : j_F 246 16 = some (.iload_n 1, 1, 0, 0, .null, .int) := by decide +kernel
theorem jF_246_17 : j_F 246 17 = some (.imul, 1, 0, 0, .null, .int) := by decide +kernel
theorem jF_246_18 : j_F 246 18 = some (.iadd, 1, 0, 0, .null, .int) := by decide +kernel
theorem jF_246_19 : j_F 246 19 = some (.iload_n 3, 1, 0, 0, .null, .int) := by decide +kernel
theorem jF_246_20 : j_F 246 20 = some (.iadd, 1, 0, 0, .null, .int) := by decide +kernel
theorem jF_246_21 : j_F 246 21 = some (.iaload, 1, 0, 0, .null, .int) := by decide +kernel
theorem jF_246_22 : j_F 246 22 = some (.iconst (-1), 1, 0, 0, .null, .int) := by decide +kernel
theorem jF_246_23 : j_F 246 23 = some (.if_icmp .eq 29, 3, 52, 0, .null, .int) := by decide +kernel
theorem jF_246_26 : j_F 246 26 = some (.aload_n 0, 1, 0, 0, .null, .int) := by decide +kernel
theorem jF_246_27 : j_F 246 27 = some (.getfield 88, 3, 12, 35, .null, (.array .int)) := by decide +kernel
theorem jF_246_30 : j_F 246 30 = some (.sipush 204, 3, 0, 0, .null, .int) := by decide +kernel
theorem jF_246_33 : j_F 246 33 = some (.bipush 6, 2, 0, 0, .null, .int) := by decide +kernel
theorem jF_246_35 : j_F 246 35 = some (.iload_n 1, 1, 0, 0, .null, .int) := by decide +kernel
theorem jF_246_36 : j_F 246 36 = some (.imul, 1, 0, 0, .null, .int) := by decide +kernel
theorem jF_246_37 : j_F 246 37 = some (.iadd, 1, 0, 0, .null, .int) := by decide +kernel
theorem jF_246_38 : j_F 246 38 = some (.iload_n 3, 1, 0, 0, .null, .int) := by decide +kernel
theorem jF_246_39 : j_F 246 39 = some (.iadd, 1, 0, 0, .null, .int) := by decide +kernel
theorem jF_246_40 : j_F 246 40 = some (.iaload, 1, 0, 0, .null, .int) := by decide +kernel
theorem jF_246_41 : j_F 246 41 = some (.aload_n 0, 1, 0, 0, .null, .int) := by decide +kernel
theorem jF_246_42 : j_F 246 42 = some (.iload_n 2, 1, 0, 0, .null, .int) := by decide +kernel
theorem jF_246_43 : j_F 246 43 = some (.iload_n 3, 1, 0, 0, .null, .int) := by decide +kernel
theorem jF_246_44 : j_F 246 44 = some (.invokevirtual 361, 3, 245, 3, .null, .int) := by decide +kernel
theorem jF_246_47 : j_F 246 47 = some (.if_icmp .eq 5, 3, 52, 0, .null, .int) := by decide +kernel
theorem jF_246_50 : j_F 246 50 = some (.iconst 0, 1, 0, 0, .null, .int) := by decide +kernel
theorem jF_246_51 : j_F 246 51 = some (.ireturn, 1, 0, 0, .null, .boolean) := by decide +kernel
theorem jF_246_52 : j_F 246 52 = some (.iinc 3 1, 3, 0, 0, .null, .int) := by decide +kernel
theorem jF_246_55 : j_F 246 55 = some (.goto (-53), 3, 2, 0, .null, .int) := by decide +kernel
theorem jF_246_58 : j_F 246 58 = some (.iconst 1, 1, 0, 0, .null, .int) := by decide +kernel
theorem jF_246_59 : j_F 246 59 = some (.ireturn, 1, 0, 0, .null, .boolean) := by decide +kernel
theorem jF_356_0 : j_F 356 0 = some (.iload_n 1, 1, 0, 0, .null, .int) := by decide +kernel
theorem jF_356_1 : j_F 356 1 = some (.ifCond .lt 20, 3, 21, 0, .null, .int) := by decide +kernel
theorem jF_356_4 : j_F 356 4 = some (.iload_n 1, 1, 0, 0, .null, .int) := by decide +kernel
theorem jF_356_5 : j_F 356 5 = some (.aload_n 0, 1, 0, 0, .null, .int) := by decide +kernel
theorem jF_356_6 : j_F 356 6 = some (.getfield 694, 3, 12, 97, .null, .int) := by decide +kernel
theorem jF_356_9 : j_F 356 9 = some (.if_icmp .ge 12, 3, 21, 0, .null, .int) := by decide +kernel
theorem jF_356_12 : j_F 356 12 = some (.aload_n 0, 1, 0, 0, .null, .int) := by decide +kernel
theorem jF_356_13 : j_F 356 13 = some (.getfield 206, 3, 12, 96, .null, (.array .int)) := by decide +kernel
theorem jF_356_16 : j_F 356 16 = some (.iload_n 1, 1, 0, 0, .null, .int) := by decide +kernel
theorem jF_356_17 : j_F 356 17 = some (.iaload, 1, 0, 0, .null, .int) := by decide +kernel
theorem jF_356_18 : j_F 356 18 = some (.goto 4, 3, 22, 0, .null, .int) := by decide +kernel
theorem jF_356_21 : j_F 356 21 = some (.iconst (-1), 1, 0, 0, .null, .int) := by decide +kernel
theorem jF_356_22 : j_F 356 22 = some (.ireturn, 1, 0, 0, .null, .int) := by decide +kernel
theorem jF_358_0 : j_F 358 0 = some (.iload_n 1, 1, 0, 0, .null, .int) := by decide +kernel
theorem jF_358_1 : j_F 358 1 = some (.iload_n 2, 1, 0, 0, .null, .int) := by decide +kernel
theorem jF_358_2 : j_F 358 2 = some (.iconst 1, 1, 0, 0, .null, .int) := by decide +kernel
theorem jF_358_3 : j_F 358 3 = some (.isub, 1, 0, 0, .null, .int) := by decide +kernel
theorem jF_358_4 : j_F 358 4 = some (.if_icmp .ge 28, 3, 32, 0, .null, .int) := by decide +kernel
theorem jF_358_7 : j_F 358 7 = some (.aload_n 0, 1, 0, 0, .null, .int) := by decide +kernel
theorem jF_358_8 : j_F 358 8 = some (.getfield 7, 3, 12, 0, .null, (.array .int)) := by decide +kernel
theorem jF_358_11 : j_F 358 11 = some (.iload_n 1, 1, 0, 0, .null, .int) := by decide +kernel
theorem jF_358_12 : j_F 358 12 = some (.iaload, 1, 0, 0, .null, .int) := by decide +kernel
theorem jF_358_13 : j_F 358 13 = some (.bipush 60, 2, 0, 0, .null, .int) := by decide +kernel
theorem jF_358_15 : j_F 358 15 = some (.if_icmp .gt 17, 3, 32, 0, .null, .int) := by decide +kernel
theorem jF_358_18 : j_F 358 18 = some (.iload_n 1, 1, 0, 0, .null, .int) := by decide +kernel
theorem jF_358_19 : j_F 358 19 = some (.aload_n 0, 1, 0, 0, .null, .int) := by decide +kernel
theorem jF_358_20 : j_F 358 20 = some (.getfield 7, 3, 12, 0, .null, (.array .int)) := by decide +kernel
theorem jF_358_23 : j_F 358 23 = some (.iload_n 1, 1, 0, 0, .null, .int) := by decide +kernel
theorem jF_358_24 : j_F 358 24 = some (.iaload, 1, 0, 0, .null, .int) := by decide +kernel
theorem jF_358_25 : j_F 358 25 = some (.iadd, 1, 0, 0, .null, .int) := by decide +kernel
theorem jF_358_26 : j_F 358 26 = some (.iload_n 2, 1, 0, 0, .null, .int) := by decide +kernel
theorem jF_358_27 : j_F 358 27 = some (.iconst 1, 1, 0, 0, .null, .int) := by decide +kernel
theorem jF_358_28 : j_F 358 28 = some (.isub, 1, 0, 0, .null, .int) := by decide +kernel
theorem jF_358_29 : j_F 358 29 = some (.if_icmp .lt 5, 3, 34, 0, .null, .int) := by decide +kernel
theorem jF_358_32 : j_F 358 32 = some (.iconst 0, 1, 0, 0, .null, .int) := by decide +kernel
theorem jF_358_33 : j_F 358 33 = some (.ireturn, 1, 0, 0, .null, .boolean) := by decide +kernel
theorem jF_358_34 : j_F 358 34 = some (.aload_n 0, 1, 0, 0, .null, .int) := by decide +kernel
theorem jF_358_35 : j_F 358 35 = some (.aload_n 0, 1, 0, 0, .null, .int) := by decide +kernel
theorem jF_358_36 : j_F 358 36 = some (.getfield 7, 3, 12, 0, .null, (.array .int)) := by decide +kernel
theorem jF_358_39 : j_F 358 39 = some (.iload_n 1, 1, 0, 0, .null, .int) := by decide +kernel
theorem jF_358_40 : j_F 358 40 = some (.iaload, 1, 0, 0, .null, .int) := by decide +kernel
theorem jF_358_41 : j_F 358 41 = some (.putfield 401, 3, 12, 49, .null, .int) := by decide +kernel
theorem jF_358_44 : j_F 358 44 = some (.iconst 0, 1, 0, 0, .null, .int) := by decide +kernel
theorem jF_358_45 : j_F 358 45 = some (.istore_n 3, 1, 0, 0, .null, .int) := by decide +kernel
theorem jF_358_46 : j_F 358 46 = some (.iload_n 3, 1, 0, 0, .null, .int) := by decide +kernel
theorem jF_358_47 : j_F 358 47 = some (.aload_n 0, 1, 0, 0, .null, .int) := by decide +kernel
theorem jF_358_48 : j_F 358 48 = some (.getfield 401, 3, 12, 49, .null, .int) := by decide +kernel
theorem jF_358_51 : j_F 358 51 = some (.if_icmp .ge 25, 3, 76, 0, .null, .int) := by decide +kernel
theorem jF_358_54 : j_F 358 54 = some (.aload_n 0, 1, 0, 0, .null, .int) := by decide +kernel
theorem jF_358_55 : j_F 358 55 = some (.getfield 112, 3, 12, 48, .null, (.array .int)) := by decide +kernel
theorem jF_358_58 : j_F 358 58 = some (.iload_n 3, 1, 0, 0, .null, .int) := by decide +kernel
theorem jF_358_59 : j_F 358 59 = some (.aload_n 0, 1, 0, 0, .null, .int) := by decide +kernel
theorem jF_358_60 : j_F 358 60 = some (.getfield 7, 3, 12, 0, .null, (.array .int)) := by decide +kernel
theorem jF_358_63 : j_F 358 63 = some (.iload_n 1, 1, 0, 0, .null, .int) := by decide +kernel
theorem jF_358_64 : j_F 358 64 = some (.iconst 1, 1, 0, 0, .null, .int) := by decide +kernel
theorem jF_358_65 : j_F 358 65 = some (.iadd, 1, 0, 0, .null, .int) := by decide +kernel
theorem jF_358_66 : j_F 358 66 = some (.iload_n 3, 1, 0, 0, .null, .int) := by decide +kernel
theorem jF_358_67 : j_F 358 67 = some (.iadd, 1, 0, 0, .null, .int) := by decide +kernel
theorem jF_358_68 : j_F 358 68 = some (.iaload, 1, 0, 0, .null, .int) := by decide +kernel
theorem jF_358_69 : j_F 358 69 = some (.iastore, 1, 0, 0, .null, .int) := by decide +kernel
theorem jF_358_70 : j_F 358 70 = some (.iinc 3 1, 3, 0, 0, .null, .int) := by decide +kernel
theorem jF_358_73 : j_F 358 73 = some (.goto (-27), 3, 46, 0, .null, .int) := by decide +kernel
theorem jF_358_76 : j_F 358 76 = some (.aload_n 0, 1, 0, 0, .null, .int) := by decide +kernel
theorem jF_358_77 : j_F 358 77 = some (.invokevirtual 422, 3, 282, 1, .null, .int) := by decide +kernel
theorem jF_358_80 : j_F 358 80 = some (.ireturn, 1, 0, 0, .null, .boolean) := by decide +kernel
