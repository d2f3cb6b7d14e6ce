/-! CODE. -/
theorem jF_82_0 : j_F 82 0 = some (.aload_n 0, 1, 0, 0, .null, .int) := by decide +kernel
theorem jF_82_1 : j_F 82 1 = some (.iconst 0, 1, 0, 0, .null, .int) := by decide +kernel
theorem jF_82_2 : j_F 82 2 = some (.putfield 32, 3, 4, 2, .null, .int) := by decide +kernel
theorem jF_82_5 : j_F 82 5 = some (.iconst 0, 1, 0, 0, .null, .int) := by decide +kernel
theorem jF_82_6 : j_F 82 6 = some (.istore_n 2, 1, 0, 0, .null, .int) := by decide +kernel
theorem jF_82_7 : j_F 82 7 = some (.iconst 0, 1, 0, 0, .null, .int) := by decide +kernel
theorem jF_82_8 : j_F 82 8 = some (.istore_n 3, 1, 0, 0, .null, .int) := by decide +kernel
theorem jF_82_9 : j_F 82 9 = some (.iload_n 3, 1, 0, 0, .null, .int) := by decide +kernel
theorem jF_82_10 : j_F 82 10 = some (.aload_n 0, 1, 0, 0, .null, .int) := by decide +kernel
theorem jF_82_11 : j_F 82 11 = some (.getfield 28, 3, 4, 1, .null, .int) := by decide +kernel
theorem jF_82_14 : j_F 82 14 = some (.if_icmp .ge 45, 3, 59, 0, .null, .int) := by decide +kernel
theorem jF_82_17 : j_F 82 17 = some (.aload_n 0, 1, 0, 0, .null, .int) := by decide +kernel
theorem jF_82_18 : j_F 82 18 = some (.getfield 15, 3, 4, 3, .null, (.array .int)) := by decide +kernel
theorem jF_82_21 : j_F 82 21 = some (.iload_n 3, 1, 0, 0, .null, .int) := by decide +kernel
theorem jF_82_22 : j_F 82 22 = some (.iload_n 2, 1, 0, 0, .null, .int) := by decide +kernel
theorem jF_82_23 : j_F 82 23 = some (.iastore, 1, 0, 0, .null, .int) := by decide +kernel
theorem jF_82_24 : j_F 82 24 = some (.iload_n 2, 1, 0, 0, .null, .int) := by decide +kernel
theorem jF_82_25 : j_F 82 25 = some (.aload_n 0, 1, 0, 0, .null, .int) := by decide +kernel
theorem jF_82_26 : j_F 82 26 = some (.getfield 9, 3, 4, 0, .null, (.array .int)) := by decide +kernel
theorem jF_82_29 : j_F 82 29 = some (.iload_n 3, 1, 0, 0, .null, .int) := by decide +kernel
theorem jF_82_30 : j_F 82 30 = some (.iaload, 1, 0, 0, .null, .int) := by decide +kernel
theorem jF_82_31 : j_F 82 31 = some (.invokestatic 73, 3, 78, 2, .null, .int) := by decide +kernel
theorem jF_82_34 : j_F 82 34 = some (.istore_n 2, 1, 0, 0, .null, .int) := by decide +kernel
theorem jF_82_35 : j_F 82 35 = some (.aload_n 0, 1, 0, 0, .null, .int) := by decide +kernel
theorem jF_82_36 : j_F 82 36 = some (.dup, 1, 0, 0, .null, .int) := by decide +kernel
theorem jF_82_37 : j_F 82 37 = some (.getfield 32, 3, 4, 2, .null, .int) := by decide +kernel
theorem jF_82_40 : j_F 82 40 = some (.aload_n 0, 1, 0, 0, .null, .int) := by decide +kernel
theorem jF_82_41 : j_F 82 41 = some (.getfield 9, 3, 4, 0, .null, (.array .int)) := by decide +kernel
theorem jF_82_44 : j_F 82 44 = some (.iload_n 3, 1, 0, 0, .null, .int) := by decide +kernel
theorem jF_82_45 : j_F 82 45 = some (.iaload, 1, 0, 0, .null, .int) := by decide +kernel
theorem jF_82_46 : j_F 82 46 = some (.invokestatic 42, 3, 81, 1, .null, .int) := by decide +kernel
theorem jF_82_49 : j_F 82 49 = some (.iadd, 1, 0, 0, .null, .int) := by decide +kernel
theorem jF_82_50 : j_F 82 50 = some (.putfield 32, 3, 4, 2, .null, .int) := by decide +kernel
theorem jF_82_53 : j_F 82 53 = some (.iinc 3 1, 3, 0, 0, .null, .int) := by decide +kernel
theorem jF_82_56 : j_F 82 56 = some (.goto (-47), 3, 9, 0, .null, .int) := by decide +kernel
theorem jF_82_59 : j_F 82 59 = some (.aload_n 0, 1, 0, 0, .null, .int) := by decide +kernel
theorem jF_82_60 : j_F 82 60 = some (.getfield 15, 3, 4, 3, .null, (.array .int)) := by decide +kernel
theorem jF_82_63 : j_F 82 63 = some (.aload_n 0, 1, 0, 0, .null, .int) := by decide +kernel
theorem jF_82_64 : j_F 82 64 = some (.getfield 28, 3, 4, 1, .null, .int) := by decide +kernel
theorem jF_82_67 : j_F 82 67 = some (.iload_n 2, 1, 0, 0, .null, .int) := by decide +kernel
theorem jF_82_68 : j_F 82 68 = some (.iastore, 1, 0, 0, .null, .int) := by decide +kernel
theorem jF_82_69 : j_F 82 69 = some (.aload_n 0, 1, 0, 0, .null, .int) := by decide +kernel
theorem jF_82_70 : j_F 82 70 = some (.iconst 0, 1, 0, 0, .null, .int) := by decide +kernel
theorem jF_82_71 : j_F 82 71 = some (.putfield 35, 3, 4, 6, .null, .int) := by decide +kernel
theorem jF_82_74 : j_F 82 74 = some (.aload_n 0, 1, 0, 0, .null, .int) := by decide +kernel
theorem jF_82_75 : j_F 82 75 = some (.lconst 0, 1, 0, 0, .null, .int) := by decide +kernel
theorem jF_82_76 : j_F 82 76 = some (.putfield 38, 3, 4, 7, .null, .long) := by decide +kernel
theorem jF_82_79 : j_F 82 79 = some (.aload_n 0, 1, 0, 0, .null, .int) := by decide +kernel
theorem jF_82_80 : j_F 82 80 = some (.iconst 0, 1, 0, 0, .null, .int) := by decide +kernel
theorem jF_82_81 : j_F 82 81 = some (.putfield 80, 3, 4, 8, .null, .int) := by decide +kernel
theorem jF_82_84 : j_F 82 84 = some (.iconst 0, 1, 0, 0, .null, .int) := by decide +kernel
theorem jF_82_85 : j_F 82 85 = some (.istore_n 3, 1, 0, 0, .null, .int) := by decide +kernel
theorem jF_82_86 : j_F 82 86 = some (.iload_n 3, 1, 0, 0, .null, .int) := by decide +kernel
theorem jF_82_87 : j_F 82 87 = some (.bipush 30, 2, 0, 0, .null, .int) := by decide +kernel
theorem jF_82_89 : j_F 82 89 = some (.if_icmp .ge 66, 3, 155, 0, .null, .int) := by decide +kernel
theorem jF_82_92 : j_F 82 92 = some (.aload_n 0, 1, 0, 0, .null, .int) := by decide +kernel
theorem jF_82_93 : j_F 82 93 = some (.getfield 80, 3, 4, 8, .null, .int) := by decide +kernel
theorem jF_82_96 : j_F 82 96 = some (.aload_n 0, 1, 0, 0, .null, .int) := by decide +kernel
theorem jF_82_97 : j_F 82 97 = some (.getfield 28, 3, 4, 1, .null, .int) := by decide +kernel
theorem jF_82_100 : j_F 82 100 = some (.if_icmp .ge 55, 3, 155, 0, .null, .int) := by decide +kernel
theorem jF_82_103 : j_F 82 103 = some (.aload_n 0, 1, 0, 0, .null, .int) := by decide +kernel
theorem jF_82_104 : j_F 82 104 = some (.getfield 18, 3, 4, 4, .null, (.array .int)) := by decide +kernel
theorem jF_82_107 : j_F 82 107 = some (.iload_n 3, 1, 0, 0, .null, .int) := by decide +kernel
theorem jF_82_108 : j_F 82 108 = some (.aload_n 0, 1, 0, 0, .null, .int) := by decide +kernel
theorem jF_82_109 : j_F 82 109 = some (.getfield 80, 3, 4, 8, .null, .int) := by decide +kernel
theorem jF_82_112 : j_F 82 112 = some (.iastore, 1, 0, 0, .null, .int) := by decide +kernel
theorem jF_82_113 : j_F 82 113 = some (.aload_n 0, 1, 0, 0, .null, .int) := by decide +kernel
theorem jF_82_114 : j_F 82 114 = some (.getfield 21, 3, 4, 5, .null, (.array .long)) := by decide +kernel
theorem jF_82_117 : j_F 82 117 = some (.iload_n 3, 1, 0, 0, .null, .int) := by decide +kernel
theorem jF_82_118 : j_F 82 118 = some (.aload_n 0, 1, 0, 0, .null, .int) := by decide +kernel
theorem jF_82_119 : j_F 82 119 = some (.aload_n 1, 1, 0, 0, .null, .int) := by decide +kernel
theorem jF_82_120 : j_F 82 120 = some (.invokevirtual 83, 3, 83, 2, .null, .int) := by decide +kernel
theorem jF_82_123 : j_F 82 123 = some (.lastore, 1, 0, 0, .null, .int) := by decide +kernel
theorem jF_82_124 : j_F 82 124 = some (.aload_n 0, 1, 0, 0, .null, .int) := by decide +kernel
theorem jF_82_125 : j_F 82 125 = some (.dup, 1, 0, 0, .null, .int) := by decide +kernel
theorem jF_82_126 : j_F 82 126 = some (.getfield 38, 3, 4, 7, .null, .long) := by decide +kernel
theorem jF_82_129 : j_F 82 129 = some (.aload_n 0, 1, 0, 0, .null, .int) := by decide +kernel
theorem jF_82_130 : j_F 82 130 = some (.getfield 21, 3, 4, 5, .null, (.array .long)) := by decide +kernel
theorem jF_82_133 : j_F 82 133 = some (.iload_n 3, 1, 0, 0, .null, .int) := by decide +kernel
theorem jF_82_134 : j_F 82 134 = some (.laload, 1, 0, 0, .null, .int) := by decide +kernel
theorem jF_82_135 : j_F 82 135 = some (.lor, 1, 0, 0, .null, .int) := by decide +kernel
theorem jF_82_136 : j_F 82 136 = some (.putfield 38, 3, 4, 7, .null, .long) := by decide +kernel
theorem jF_82_139 : j_F 82 139 = some (.aload_n 0, 1, 0, 0, .null, .int) := by decide +kernel
theorem jF_82_140 : j_F 82 140 = some (.dup, 1, 0, 0, .null, .int) := by decide +kernel
theorem jF_82_141 : j_F 82 141 = some (.getfield 35, 3, 4, 6, .null, .int) := by decide +kernel
theorem jF_82_144 : j_F 82 144 = some (.iconst 1, 1, 0, 0, .null, .int) := by decide +kernel
theorem jF_82_145 : j_F 82 145 = some (.iadd, 1, 0, 0, .null, .int) := by decide +kernel
theorem jF_82_146 : j_F 82 146 = some (.putfield 35, 3, 4, 6, .null, .int) := by decide +kernel
theorem jF_82_149 : j_F 82 149 = some (.iinc 3 1, 3, 0, 0, .null, .int) := by decide +kernel
theorem jF_82_152 : j_F 82 152 = some (.goto (-66), 3, 86, 0, .null, .int) := by decide +kernel
theorem jF_82_155 : j_F 82 155 = some (.aload_n 0, 1, 0, 0, .null, .int) := by decide +kernel
theorem jF_82_156 : j_F 82 156 = some (.getfield 18, 3, 4, 4, .null, (.array .int)) := by decide +kernel
theorem jF_82_159 : j_F 82 159 = some (.aload_n 0, 1, 0, 0, .null, .int) := by decide +kernel
theorem jF_82_160 : j_F 82 160 = some (.getfield 35, 3, 4, 6, .null, .int) := by decide +kernel
theorem jF_82_163 : j_F 82 163 = some (.aload_n 0, 1, 0, 0, .null, .int) := by decide +kernel
theorem jF_82_164 : j_F 82 164 = some (.getfield 28, 3, 4, 1, .null, .int) := by decide +kernel
theorem jF_82_167 : j_F 82 167 = some (.iastore, 1, 0, 0, .null, .int) := by decide +kernel
theorem jF_82_168 : j_F 82 168 = some (.return_, 1, 0, 0, .null, .int) := by decide +kernel
theorem jF_83_0 : j_F 83 0 = some (.aload_n 1, 1, 0, 0, .null, .int) := by decide +kernel
theorem jF_83_1 : j_F 83 1 = some (.getfield 87, 3, 8, 13, .null, .long) := by decide +kernel
theorem jF_83_4 : j_F 83 4 = some (.lstore_n 2, 1, 0, 0, .null, .int) := by decide +kernel
theorem jF_83_5 : j_F 83 5 = some (.lconst 0, 1, 0, 0, .null, .int) := by decide +kernel
theorem jF_83_6 : j_F 83 6 = some (.lstore 4, 2, 0, 0, .null, .int) := by decide +kernel
theorem jF_83_8 : j_F 83 8 = some (.iconst 0, 1, 0, 0, .null, .int) := by decide +kernel
theorem jF_83_9 : j_F 83 9 = some (.istore 6, 2, 0, 0, .null, .int) := by decide +kernel
theorem jF_83_11 : j_F 83 11 = some (.iconst 0, 1, 0, 0, .null, .int) := by decide +kernel
theorem jF_83_12 : j_F 83 12 = some (.istore 7, 2, 0, 0, .null, .int) := by decide +kernel
theorem jF_83_14 : j_F 83 14 = some (.iconst 0, 1, 0, 0, .null, .int) := by decide +kernel
theorem jF_83_15 : j_F 83 15 = some (.istore 8, 2, 0, 0, .null, .int) := by decide +kernel
theorem jF_83_17 : j_F 83 17 = some (.aload_n 0, 1, 0, 0, .null, .int) := by decide +kernel
theorem jF_83_18 : j_F 83 18 = some (.getfield 80, 3, 4, 8, .null, .int) := by decide +kernel
theorem jF_83_21 : j_F 83 21 = some (.aload_n 0, 1, 0, 0, .null, .int) := by decide +kernel
theorem jF_83_22 : j_F 83 22 = some (.getfield 28, 3, 4, 1, .null, .int) := by decide +kernel
theorem jF_83_25 : j_F 83 25 = some (.if_icmp .ge 160, 3, 185, 0, .null, .int) := by decide +kernel
theorem jF_83_28 : j_F 83 28 = some (.aload_n 0, 1, 0, 0, .null, .int) := by decide +kernel
theorem jF_83_29 : j_F 83 29 = some (.getfield 9, 3, 4, 0, .null, (.array .int)) := by decide +kernel
theorem jF_83_32 : j_F 83 32 = some (.aload_n 0, 1, 0, 0, .null, .int) := by decide +kernel
theorem jF_83_33 : j_F 83 33 = some (.getfield 80, 3, 4, 8, .null, .int) := by decide +kernel
theorem jF_83_36 : j_F 83 36 = some (.iaload, 1, 0, 0, .null, .int) := by decide +kernel
theorem jF_83_37 : j_F 83 37 = some (.bipush 22, 2, 0, 0, .null, .int) := by decide +kernel
theorem jF_83_39 : j_F 83 39 = some (.if_icmp .eq 146, 3, 185, 0, .null, .int) := by decide +kernel
theorem jF_83_42 : j_F 83 42 = some (.aload_n 0, 1, 0, 0, .null, .int) := by decide +kernel
theorem jF_83_43 : j_F 83 43 = some (.getfield 9, 3, 4, 0, .null, (.array .int)) := by decide +kernel
theorem jF_83_46 : j_F 83 46 = some (.aload_n 0, 1, 0, 0, .null, .int) := by decide +kernel
theorem jF_83_47 : j_F 83 47 = some (.getfield 80, 3, 4, 8, .null, .int) := by decide +kernel
theorem jF_83_50 : j_F 83 50 = some (.iaload, 1, 0, 0, .null, .int) := by decide +kernel
theorem jF_83_51 : j_F 83 51 = some (.istore 9, 2, 0, 0, .null, .int) := by decide +kernel
theorem jF_83_53 : j_F 83 53 = some (.iload 9, 2, 0, 0, .null, .int) := by decide +kernel
theorem jF_83_55 : j_F 83 55 = some (.bipush 20, 2, 0, 0, .null, .int) := by decide +kernel
theorem jF_83_57 : j_F 83 57 = some (.if_icmp .ne 18, 3, 75, 0, .null, .int) := by decide +kernel
theorem jF_83_60 : j_F 83 60 = some (.iload 7, 2, 0, 0, .null, .int) := by decide +kernel
theorem jF_83_62 : j_F 83 62 = some (.ifCond .ne 7, 3, 69, 0, .null, .int) := by decide +kernel
theorem jF_83_65 : j_F 83 65 = some (.iconst 1, 1, 0, 0, .null, .int) := by decide +kernel
theorem jF_83_66 : j_F 83 66 = some (.goto 4, 3, 70, 0, .null, .int) := by decide +kernel
theorem jF_83_69 : j_F 83 69 = some (.iconst 0, 1, 0, 0, .null, .int) := by decide +kernel
theorem jF_83_70 : j_F 83 70 = some (.istore 7, 2, 0, 0, .null, .int) := by decide +kernel
theorem jF_83_72 : j_F 83 72 = some (.goto 100, 3, 172, 0, .null, .int) := by decide +kernel
theorem jF_83_75 : j_F 83 75 = some (.iload 9, 2, 0, 0, .null, .int) := by decide +kernel
theorem jF_83_77 : j_F 83 77 = some (.bipush 21, 2, 0, 0, .null, .int) := by decide +kernel
theorem jF_83_79 : j_F 83 79 = some (.if_icmp .ne 18, 3, 97, 0, .null, .int) := by decide +kernel
theorem jF_83_82 : j_F 83 82 = some (.lload 4, 2, 0, 0, .null, .int) := by decide +kernel
theorem jF_83_84 : j_F 83 84 = some (.lstore_n 2, 1, 0, 0, .null, .int) := by decide +kernel
theorem jF_83_85 : j_F 83 85 = some (.lconst 0, 1, 0, 0, .null, .int) := by decide +kernel
theorem jF_83_86 : j_F 83 86 = some (.lstore 4, 2, 0, 0, .null, .int) := by decide +kernel
theorem jF_83_88 : j_F 83 88 = some (.iconst 0, 1, 0, 0, .null, .int) := by decide +kernel
theorem jF_83_89 : j_F 83 89 = some (.istore 6, 2, 0, 0, .null, .int) := by decide +kernel
theorem jF_83_91 : j_F 83 91 = some (.iconst 1, 1, 0, 0, .null, .int) := by decide +kernel
theorem jF_83_92 : j_F 83 92 = some (.istore 8, 2, 0, 0, .null, .int) := by decide +kernel
theorem jF_83_94 : j_F 83 94 = some (.goto 78, 3, 172, 0, .null, .int) := by decide +kernel
theorem jF_83_97 : j_F 83 97 = some (.iload 9, 2, 0, 0, .null, .int) := by decide +kernel
theorem jF_83_99 : j_F 83 99 = some (.bipush 18, 2, 0, 0, .null, .int) := by decide +kernel
theorem jF_83_101 : j_F 83 101 = some (.if_icmp .lt 20, 3, 121, 0, .null, .int) := by decide +kernel
theorem jF_83_104 : j_F 83 104 = some (.iload 9, 2, 0, 0, .null, .int) := by decide +kernel
theorem jF_83_106 : j_F 83 106 = some (.bipush 18, 2, 0, 0, .null, .int) := by decide +kernel
theorem jF_83_108 : j_F 83 108 = some (.if_icmp .ne 7, 3, 115, 0, .null, .int) := by decide +kernel
theorem jF_83_111 : j_F 83 111 = some (.iconst 1, 1, 0, 0, .null, .int) := by decide +kernel
theorem jF_83_112 : j_F 83 112 = some (.goto 4, 3, 116, 0, .null, .int) := by decide +kernel
theorem jF_83_115 : j_F 83 115 = some (.iconst 0, 1, 0, 0, .null, .int) := by decide +kernel
theorem jF_83_116 : j_F 83 116 = some (.istore 6, 2, 0, 0, .null, .int) := by decide +kernel
theorem jF_83_118 : j_F 83 118 = some (.goto 54, 3, 172, 0, .null, .int) := by decide +kernel
theorem jF_83_121 : j_F 83 121 = some (.iload 7, 2, 0, 0, .null, .int) := by decide +kernel
theorem jF_83_123 : j_F 83 123 = some (.ifCond .eq 17, 3, 140, 0, .null, .int) := by decide +kernel
theorem jF_83_126 : j_F 83 126 = some (.aload_n 1, 1, 0, 0, .null, .int) := by decide +kernel
theorem jF_83_127 : j_F 83 127 = some (.getfield 90, 3, 8, 5, .null, (.array .long)) := by decide +kernel
theorem jF_83_130 : j_F 83 130 = some (.iload 9, 2, 0, 0, .null, .int) := by decide +kernel
theorem jF_83_132 : j_F 83 132 = some (.laload, 1, 0, 0, .null, .int) := by decide +kernel
theorem jF_83_133 : j_F 83 133 = some (.ldc2_w 93, 3, 0, 0, (.long (-1)), .int) := by decide +kernel
theorem jF_83_136 : j_F 83 136 = some (.lxor, 1, 0, 0, .null, .int) := by decide +kernel
theorem jF_83_137 : j_F 83 137 = some (.goto 10, 3, 147, 0, .null, .int) := by decide +kernel
theorem jF_83_140 : j_F 83 140 = some (.aload_n 1, 1, 0, 0, .null, .int) := by decide +kernel
theorem jF_83_141 : j_F 83 141 = some (.getfield 90, 3, 8, 5, .null, (.array .long)) := by decide +kernel
theorem jF_83_144 : j_F 83 144 = some (.iload 9, 2, 0, 0, .null, .int) := by decide +kernel
theorem jF_83_146 : j_F 83 146 = some (.laload, 1, 0, 0, .null, .int) := by decide +kernel
theorem jF_83_147 : j_F 83 147 = some (.lstore 10, 2, 0, 0, .null, .int) := by decide +kernel
theorem jF_83_149 : j_F 83 149 = some (.iload 6, 2, 0, 0, .null, .int) := by decide +kernel
theorem jF_83_151 : j_F 83 151 = some (.ifCond .eq 11, 3, 162, 0, .null, .int) := by decide +kernel
theorem jF_83_154 : j_F 83 154 = some (.lload 4, 2, 0, 0, .null, .int) := by decide +kernel
theorem jF_83_156 : j_F 83 156 = some (.lload 10, 2, 0, 0, .null, .int) := by decide +kernel
theorem jF_83_158 : j_F 83 158 = some (.land, 1, 0, 0, .null, .int) := by decide +kernel
theorem jF_83_159 : j_F 83 159 = some (.goto 8, 3, 167, 0, .null, .int) := by decide +kernel
theorem jF_83_162 : j_F 83 162 = some (.lload 4, 2, 0, 0, .null, .int) := by decide +kernel
theorem jF_83_164 : j_F 83 164 = some (.lload 10, 2, 0, 0, .null, .int) := by decide +kernel
theorem jF_83_166 : j_F 83 166 = some (.lor, 1, 0, 0, .null, .int) := by decide +kernel
theorem jF_83_167 : j_F 83 167 = some (.lstore 4, 2, 0, 0, .null, .int) := by decide +kernel
theorem jF_83_169 : j_F 83 169 = some (.iconst 0, 1, 0, 0, .null, .int) := by decide +kernel
theorem jF_83_170 : j_F 83 170 = some (.istore 7, 2, 0, 0, .null, .int) := by decide +kernel
theorem jF_83_172 : j_F 83 172 = some (.aload_n 0, 1, 0, 0, .null, .int) := by decide +kernel
theorem jF_83_173 : j_F 83 173 = some (.dup, 1, 0, 0, .null, .int) := by decide +kernel
theorem jF_83_174 : j_F 83 174 = some (.getfield 80, 3, 4, 8, .null, .int) := by decide +kernel
theorem jF_83_177 : j_F 83 177 = some (.iconst 1, 1, 0, 0, .null, .int) := by decide +kernel
theorem jF_83_178 : j_F 83 178 = some (.iadd, 1, 0, 0, .null, .int) := by decide +kernel
theorem jF_83_179 : j_F 83 179 = some (.putfield 80, 3, 4, 8, .null, .int) := by decide +kernel
theorem jF_83_182 : j_F 83 182 = some (.goto (-165), 3, 17, 0, .null, .int) := by decide +kernel
theorem jF_83_185 : j_F 83 185 = some (.aload_n 0, 1, 0, 0, .null, .int) := by decide +kernel
theorem jF_83_186 : j_F 83 186 = some (.dup, 1, 0, 0, .null, .int) := by decide +kernel
theorem jF_83_187 : j_F 83 187 = some (.getfield 80, 3, 4, 8, .null, .int) := by decide +kernel
theorem jF_83_190 : j_F 83 190 = some (.iconst 1, 1, 0, 0, .null, .int) := by decide +kernel
theorem jF_83_191 : j_F 83 191 = some (.iadd, 1, 0, 0, .null, .int) := by decide +kernel
theorem jF_83_192 : j_F 83 192 = some (.putfield 80, 3, 4, 8, .null, .int) := by decide +kernel
theorem jF_83_195 : j_F 83 195 = some (.iload 8, 2, 0, 0, .null, .int) := by decide +kernel
theorem jF_83_197 : j_F 83 197 = some (.ifCond .eq 14, 3, 211, 0, .null, .int) := by decide +kernel
theorem jF_83_200 : j_F 83 200 = some (.lload_n 2, 1, 0, 0, .null, .int) := by decide +kernel
theorem jF_83_201 : j_F 83 201 = some (.lload 4, 2, 0, 0, .null, .int) := by decide +kernel
theorem jF_83_203 : j_F 83 203 = some (.ldc2_w 93, 3, 0, 0, (.long (-1)), .int) := by decide +kernel
theorem jF_83_206 : j_F 83 206 = some (.lxor, 1, 0, 0, .null, .int) := by decide +kernel
theorem jF_83_207 : j_F 83 207 = some (.land, 1, 0, 0, .null, .int) := by decide +kernel
theorem jF_83_208 : j_F 83 208 = some (.goto 5, 3, 213, 0, .null, .int) := by decide +kernel
theorem jF_83_211 : j_F 83 211 = some (.lload 4, 2, 0, 0, .null, .int) := by decide +kernel
theorem jF_83_213 : j_F 83 213 = some (.aload_n 1, 1, 0, 0, .null, .int) := by decide +kernel
theorem jF_83_214 : j_F 83 214 = some (.getfield 87, 3, 8, 13, .null, .long) := by decide +kernel
theorem jF_83_217 : j_F 83 217 = some (.land, 1, 0, 0, .null, .int) := by decide +kernel
theorem jF_83_218 : j_F 83 218 = some (.lreturn, 1, 0, 0, .null, .int) := by decide +kernel
theorem jF_84_0 : j_F 84 0 = some (.aload_n 1, 1, 0, 0, .null, .int) := by decide +kernel
theorem jF_84_1 : j_F 84 1 = some (.getfield 9, 3, 4, 0, .null, (.array .int)) := by decide +kernel
theorem jF_84_4 : j_F 84 4 = some (.iconst 0, 1, 0, 0, .null, .int) := by decide +kernel
theorem jF_84_5 : j_F 84 5 = some (.aload_n 0, 1, 0, 0, .null, .int) := by decide +kernel
theorem jF_84_6 : j_F 84 6 = some (.getfield 9, 3, 4, 0, .null, (.array .int)) := by decide +kernel
theorem jF_84_9 : j_F 84 9 = some (.iconst 0, 1, 0, 0, .null, .int) := by decide +kernel
theorem jF_84_10 : j_F 84 10 = some (.aload_n 1, 1, 0, 0, .null, .int) := by decide +kernel
theorem jF_84_11 : j_F 84 11 = some (.getfield 28, 3, 4, 1, .null, .int) := by decide +kernel
theorem jF_84_14 : j_F 84 14 = some (.invokestatic 46, 3, 1001, 0, .null, .int) := by decide +kernel
theorem jF_84_17 : j_F 84 17 = some (.aload_n 0, 1, 0, 0, .null, .int) := by decide +kernel
theorem jF_84_18 : j_F 84 18 = some (.aload_n 1, 1, 0, 0, .null, .int) := by decide +kernel
theorem jF_84_19 : j_F 84 19 = some (.getfield 28, 3, 4, 1, .null, .int) := by decide +kernel
theorem jF_84_22 : j_F 84 22 = some (.putfield 28, 3, 4, 1, .null, .int) := by decide +kernel
theorem jF_84_25 : j_F 84 25 = some (.return_, 1, 0, 0, .null, .int) := by decide +kernel
theorem jF_97_0 : j_F 97 0 = some (.iconst 0, 1, 0, 0, .null, .int) := by decide +kernel
theorem jF_97_1 : j_F 97 1 = some (.istore_n 1, 1, 0, 0, .null, .int) := by decide +kernel
theorem jF_97_2 : j_F 97 2 = some (.iconst 0, 1, 0, 0, .null, .int) := by decide +kernel
theorem jF_97_3 : j_F 97 3 = some (.istore_n 2, 1, 0, 0, .null, .int) := by decide +kernel
theorem jF_97_4 : j_F 97 4 = some (.iload_n 2, 1, 0, 0, .null, .int) := by decide +kernel
theorem jF_97_5 : j_F 97 5 = some (.aload_n 0, 1, 0, 0, .null, .int) := by decide +kernel
theorem jF_97_6 : j_F 97 6 = some (.getfield 35, 3, 4, 6, .null, .int) := by decide +kernel
theorem jF_97_9 : j_F 97 9 = some (.if_icmp .ge 69, 3, 78, 0, .null, .int) := by decide +kernel
theorem jF_97_12 : j_F 97 12 = some (.lconst 0, 1, 0, 0, .null, .int) := by decide +kernel
theorem jF_97_13 : j_F 97 13 = some (.lstore_n 3, 1, 0, 0, .null, .int) := by decide +kernel
theorem jF_97_14 : j_F 97 14 = some (.iconst 0, 1, 0, 0, .null, .int) := by decide +kernel
theorem jF_97_15 : j_F 97 15 = some (.istore 5, 2, 0, 0, .null, .int) := by decide +kernel
theorem jF_97_17 : j_F 97 17 = some (.iload 5, 2, 0, 0, .null, .int) := by decide +kernel
theorem jF_97_19 : j_F 97 19 = some (.aload_n 0, 1, 0, 0, .null, .int) := by decide +kernel
theorem jF_97_20 : j_F 97 20 = some (.getfield 35, 3, 4, 6, .null, .int) := by decide +kernel
theorem jF_97_23 : j_F 97 23 = some (.if_icmp .ge 29, 3, 52, 0, .null, .int) := by decide +kernel
theorem jF_97_26 : j_F 97 26 = some (.lload_n 3, 1, 0, 0, .null, .int) := by decide +kernel
theorem jF_97_27 : j_F 97 27 = some (.iload 5, 2, 0, 0, .null, .int) := by decide +kernel
theorem jF_97_29 : j_F 97 29 = some (.iload_n 2, 1, 0, 0, .null, .int) := by decide +kernel
theorem jF_97_30 : j_F 97 30 = some (.if_icmp .ne 7, 3, 37, 0, .null, .int) := by decide +kernel
theorem jF_97_33 : j_F 97 33 = some (.lconst 0, 1, 0, 0, .null, .int) := by decide +kernel
theorem jF_97_34 : j_F 97 34 = some (.goto 10, 3, 44, 0, .null, .int) := by decide +kernel
theorem jF_97_37 : j_F 97 37 = some (.aload_n 0, 1, 0, 0, .null, .int) := by decide +kernel
theorem jF_97_38 : j_F 97 38 = some (.getfield 21, 3, 4, 5, .null, (.array .long)) := by decide +kernel
theorem jF_97_41 : j_F 97 41 = some (.iload 5, 2, 0, 0, .null, .int) := by decide +kernel
theorem jF_97_43 : j_F 97 43 = some (.laload, 1, 0, 0, .null, .int) := by decide +kernel
theorem jF_97_44 : j_F 97 44 = some (.lor, 1, 0, 0, .null, .int) := by decide +kernel
theorem jF_97_45 : j_F 97 45 = some (.lstore_n 3, 1, 0, 0, .null, .int) := by decide +kernel
theorem jF_97_46 : j_F 97 46 = some (.iinc 5 1, 3, 0, 0, .null, .int) := by decide +kernel
theorem jF_97_49 : j_F 97 49 = some (.goto (-32), 3, 17, 0, .null, .int) := by decide +kernel
theorem jF_97_52 : j_F 97 52 = some (.iload_n 1, 1, 0, 0, .null, .int) := by decide +kernel
theorem jF_97_53 : j_F 97 53 = some (.lload_n 3, 1, 0, 0, .null, .int) := by decide +kernel
theorem jF_97_54 : j_F 97 54 = some (.aload_n 0, 1, 0, 0, .null, .int) := by decide +kernel
theorem jF_97_55 : j_F 97 55 = some (.getfield 38, 3, 4, 7, .null, .long) := by decide +kernel
theorem jF_97_58 : j_F 97 58 = some (.lcmp, 1, 0, 0, .null, .int) := by decide +kernel
theorem jF_97_59 : j_F 97 59 = some (.ifCond .ne 7, 3, 66, 0, .null, .int) := by decide +kernel
theorem jF_97_62 : j_F 97 62 = some (.iconst 1, 1, 0, 0, .null, .int) := by decide +kernel
theorem jF_97_63 : j_F 97 63 = some (.goto 4, 3, 67, 0, .null, .int) := by decide +kernel
theorem jF_97_66 : j_F 97 66 = some (.iconst 0, 1, 0, 0, .null, .int) := by decide +kernel
theorem jF_97_67 : j_F 97 67 = some (.invokestatic 95, 3, 98, 1, .null, .int) := by decide +kernel
theorem jF_97_70 : j_F 97 70 = some (.iadd, 1, 0, 0, .null, .int) := by decide +kernel
theorem jF_97_71 : j_F 97 71 = some (.istore_n 1, 1, 0, 0, .null, .int) := by decide +kernel
theorem jF_97_72 : j_F 97 72 = some (.iinc 2 1, 3, 0, 0, .null, .int) := by decide +kernel
theorem jF_97_75 : j_F 97 75 = some (.goto (-71), 3, 4, 0, .null, .int) := by decide +kernel
theorem jF_97_78 : j_F 97 78 = some (.iload_n 1, 1, 0, 0, .null, .int) := by decide +kernel
theorem jF_97_79 : j_F 97 79 = some (.ireturn, 1, 0, 0, .null, .int) := by decide +kernel
theorem jF_98_0 : j_F 98 0 = some (.iload_n 0, 1, 0, 0, .null, .int) := by decide +kernel
theorem jF_98_1 : j_F 98 1 = some (.ifCond .eq 7, 3, 8, 0, .null, .int) := by decide +kernel
theorem jF_98_4 : j_F 98 4 = some (.iconst 1, 1, 0, 0, .null, .int) := by decide +kernel
theorem jF_98_5 : j_F 98 5 = some (.goto 4, 3, 9, 0, .null, .int) := by decide +kernel
theorem jF_98_8 : j_F 98 8 = some (.iconst 0, 1, 0, 0, .null, .int) := by decide +kernel
theorem jF_98_9 : j_F 98 9 = some (.ireturn, 1, 0, 0, .null, .int) := by decide +kernel
theorem jF_101_0 : j_F 101 0 = some (.lload_n 0, 1, 0, 0, .null, .int) := by decide +kernel
theorem jF_101_1 : j_F 101 1 = some (.iload_n 2, 1, 0, 0, .null, .int) := by decide +kernel
theorem jF_101_2 : j_F 101 2 = some (.lushr, 1, 0, 0, .null, .int) := by decide +kernel
theorem jF_101_3 : j_F 101 3 = some (.lconst 1, 1, 0, 0, .null, .int) := by decide +kernel
theorem jF_101_4 : j_F 101 4 = some (.land, 1, 0, 0, .null, .int) := by decide +kernel
theorem jF_101_5 : j_F 101 5 = some (.lconst 0, 1, 0, 0, .null, .int) := by decide +kernel
theorem jF_101_6 : j_F 101 6 = some (.lcmp, 1, 0, 0, .null, .int) := by decide +kernel
theorem jF_101_7 : j_F 101 7 = some (.ifCond .eq 7, 3, 14, 0, .null, .int) := by decide +kernel
theorem jF_101_10 : j_F 101 10 = some (.iconst 1, 1, 0, 0, .null, .int) := by decide +kernel
theorem jF_101_11 : j_F 101 11 = some (.goto 4, 3, 15, 0, .null, .int) := by decide +kernel
theorem jF_101_14 : j_F 101 14 = some (.iconst 0, 1, 0, 0, .null, .int) := by decide +kernel
theorem jF_101_15 : j_F 101 15 = some (.ireturn, 1, 0, 0, .null, .boolean) := by decide +kernel
theorem jF_103_0 : j_F 103 0 = some (.iconst 0, 1, 0, 0, .null, .int) := by decide +kernel
theorem jF_103_1 : j_F 103 1 = some (.istore_n 3, 1, 0, 0, .null, .int) := by decide +kernel
theorem jF_103_2 : j_F 103 2 = some (.iconst 0, 1, 0, 0, .null, .int) := by decide +kernel
theorem jF_103_3 : j_F 103 3 = some (.istore 4, 2, 0, 0, .null, .int) := by decide +kernel
theorem jF_103_5 : j_F 103 5 = some (.iload 4, 2, 0, 0, .null, .int) := by decide +kernel
theorem jF_103_7 : j_F 103 7 = some (.aload_n 0, 1, 0, 0, .null, .int) := by decide +kernel
theorem jF_103_8 : j_F 103 8 = some (.getfield 35, 3, 4, 6, .null, .int) := by decide +kernel
theorem jF_103_11 : j_F 103 11 = some (.if_icmp .ge 34, 3, 45, 0, .null, .int) := by decide +kernel
theorem jF_103_14 : j_F 103 14 = some (.aload_n 0, 1, 0, 0, .null, .int) := by decide +kernel
theorem jF_103_15 : j_F 103 15 = some (.getfield 21, 3, 4, 5, .null, (.array .long)) := by decide +kernel
theorem jF_103_18 : j_F 103 18 = some (.iload 4, 2, 0, 0, .null, .int) := by decide +kernel
theorem jF_103_20 : j_F 103 20 = some (.laload, 1, 0, 0, .null, .int) := by decide +kernel
theorem jF_103_21 : j_F 103 21 = some (.iload_n 1, 1, 0, 0, .null, .int) := by decide +kernel
theorem jF_103_22 : j_F 103 22 = some (.invokestatic 99, 3, 101, 2, .null, .int) := by decide +kernel
theorem jF_103_25 : j_F 103 25 = some (.ifCond .eq 14, 3, 39, 0, .null, .int) := by decide +kernel
theorem jF_103_28 : j_F 103 28 = some (.iload_n 3, 1, 0, 0, .null, .int) := by decide +kernel
theorem jF_103_29 : j_F 103 29 = some (.iload_n 2, 1, 0, 0, .null, .int) := by decide +kernel
theorem jF_103_30 : j_F 103 30 = some (.if_icmp .ne 6, 3, 36, 0, .null, .int) := by decide +kernel
theorem jF_103_33 : j_F 103 33 = some (.iload 4, 2, 0, 0, .null, .int) := by decide +kernel
theorem jF_103_35 : j_F 103 35 = some (.ireturn, 1, 0, 0, .null, .int) := by decide +kernel
theorem jF_103_36 : j_F 103 36 = some (.iinc 3 1, 3, 0, 0, .null, .int) := by decide +kernel
theorem jF_103_39 : j_F 103 39 = some (.iinc 4 1, 3, 0, 0, .null, .int) := by decide +kernel
theorem jF_103_42 : j_F 103 42 = some (.goto (-37), 3, 5, 0, .null, .int) := by decide +kernel
theorem jF_103_45 : j_F 103 45 = some (.iconst (-1), 1, 0, 0, .null, .int) := by decide +kernel
theorem jF_103_46 : j_F 103 46 = some (.ireturn, 1, 0, 0, .null, .int) := by decide +kernel
theorem jF_105_0 : j_F 105 0 = some (.aload_n 2, 1, 0, 0, .null, .int) := by decide +kernel
theorem jF_105_1 : j_F 105 1 = some (.aload_n 1, 1, 0, 0, .null, .int) := by decide +kernel
theorem jF_105_2 : j_F 105 2 = some (.iload_n 3, 1, 0, 0, .null, .int) := by decide +kernel
theorem jF_105_3 : j_F 105 3 = some (.invokevirtual 103, 3, 106, 3, .null, .int) := by decide +kernel
theorem jF_105_6 : j_F 105 6 = some (.ifCond .ne 5, 3, 11, 0, .null, .int) := by decide +kernel
theorem jF_105_9 : j_F 105 9 = some (.iconst 0, 1, 0, 0, .null, .int) := by decide +kernel
theorem jF_105_10 : j_F 105 10 = some (.ireturn, 1, 0, 0, .null, .boolean) := by decide +kernel
theorem jF_105_11 : j_F 105 11 = some (.aload_n 0, 1, 0, 0, .null, .int) := by decide +kernel
theorem jF_105_12 : j_F 105 12 = some (.aload_n 2, 1, 0, 0, .null, .int) := by decide +kernel
theorem jF_105_13 : j_F 105 13 = some (.iload_n 3, 1, 0, 0, .null, .int) := by decide +kernel
theorem jF_105_14 : j_F 105 14 = some (.invokevirtual 107, 3, 110, 3, .null, .int) := by decide +kernel
theorem jF_105_17 : j_F 105 17 = some (.aload_n 0, 1, 0, 0, .null, .int) := by decide +kernel
theorem jF_105_18 : j_F 105 18 = some (.aload_n 1, 1, 0, 0, .null, .int) := by decide +kernel
theorem jF_105_19 : j_F 105 19 = some (.aload_n 2, 1, 0, 0, .null, .int) := by decide +kernel
theorem jF_105_20 : j_F 105 20 = some (.iload_n 3, 1, 0, 0, .null, .int) := by decide +kernel
theorem jF_105_21 : j_F 105 21 = some (.bipush 47, 2, 0, 0, .null, .int) := by decide +kernel
theorem jF_105_23 : j_F 105 23 = some (.idiv, 1, 0, 0, .null, .int) := by decide +kernel
theorem jF_105_24 : j_F 105 24 = some (.invokevirtual 111, 3, 111, 4, .null, .int) := by decide +kernel
theorem jF_105_27 : j_F 105 27 = some (.iconst 1, 1, 0, 0, .null, .int) := by decide +kernel
theorem jF_105_28 : j_F 105 28 = some (.ireturn, 1, 0, 0, .null, .boolean) := by decide +kernel
theorem jF_106_0 : j_F 106 0 = some (.iload_n 2, 1, 0, 0, .null, .int) := by decide +kernel
theorem jF_106_1 : j_F 106 1 = some (.bipush 47, 2, 0, 0, .null, .int) := by decide +kernel
theorem jF_106_3 : j_F 106 3 = some (.idiv, 1, 0, 0, .null, .int) := by decide +kernel
theorem jF_106_4 : j_F 106 4 = some (.istore_n 3, 1, 0, 0, .null, .int) := by decide +kernel
theorem jF_106_5 : j_F 106 5 = some (.iload_n 2, 1, 0, 0, .null, .int) := by decide +kernel
theorem jF_106_6 : j_F 106 6 = some (.bipush 47, 2, 0, 0, .null, .int) := by decide +kernel
theorem jF_106_8 : j_F 106 8 = some (.irem, 1, 0, 0, .null, .int) := by decide +kernel
theorem jF_106_9 : j_F 106 9 = some (.istore 4, 2, 0, 0, .null, .int) := by decide +kernel
theorem jF_106_11 : j_F 106 11 = some (.iload 4, 2, 0, 0, .null, .int) := by decide +kernel
theorem jF_106_13 : j_F 106 13 = some (.bipush 24, 2, 0, 0, .null, .int) := by decide +kernel
theorem jF_106_15 : j_F 106 15 = some (.if_icmp .lt 7, 3, 22, 0, .null, .int) := by decide +kernel
theorem jF_106_18 : j_F 106 18 = some (.iconst 1, 1, 0, 0, .null, .int) := by decide +kernel
theorem jF_106_19 : j_F 106 19 = some (.goto 4, 3, 23, 0, .null, .int) := by decide +kernel
theorem jF_106_22 : j_F 106 22 = some (.iconst 0, 1, 0, 0, .null, .int) := by decide +kernel
theorem jF_106_23 : j_F 106 23 = some (.istore 5, 2, 0, 0, .null, .int) := by decide +kernel
theorem jF_106_25 : j_F 106 25 = some (.iload 4, 2, 0, 0, .null, .int) := by decide +kernel
theorem jF_106_27 : j_F 106 27 = some (.invokestatic 115, 3, 107, 1, .null, .int) := by decide +kernel
theorem jF_106_30 : j_F 106 30 = some (.istore 6, 2, 0, 0, .null, .int) := by decide +kernel
theorem jF_106_32 : j_F 106 32 = some (.iload_n 2, 1, 0, 0, .null, .int) := by decide +kernel
theorem jF_106_33 : j_F 106 33 = some (.ifCond .lt 36, 3, 69, 0, .null, .int) := by decide +kernel
theorem jF_106_36 : j_F 106 36 = some (.iload_n 3, 1, 0, 0, .null, .int) := by decide +kernel
theorem jF_106_37 : j_F 106 37 = some (.aload_n 0, 1, 0, 0, .null, .int) := by decide +kernel
theorem jF_106_38 : j_F 106 38 = some (.getfield 28, 3, 4, 1, .null, .int) := by decide +kernel
theorem jF_106_41 : j_F 106 41 = some (.if_icmp .gt 28, 3, 69, 0, .null, .int) := by decide +kernel
theorem jF_106_44 : j_F 106 44 = some (.iload 5, 2, 0, 0, .null, .int) := by decide +kernel
theorem jF_106_46 : j_F 106 46 = some (.ifCond .eq 15, 3, 61, 0, .null, .int) := by decide +kernel
theorem jF_106_49 : j_F 106 49 = some (.aload_n 0, 1, 0, 0, .null, .int) := by decide +kernel
theorem jF_106_50 : j_F 106 50 = some (.getfield 28, 3, 4, 1, .null, .int) := by decide +kernel
theorem jF_106_53 : j_F 106 53 = some (.bipush 60, 2, 0, 0, .null, .int) := by decide +kernel
theorem jF_106_55 : j_F 106 55 = some (.if_icmp .lt 16, 3, 71, 0, .null, .int) := by decide +kernel
theorem jF_106_58 : j_F 106 58 = some (.goto 11, 3, 69, 0, .null, .int) := by decide +kernel
theorem jF_106_61 : j_F 106 61 = some (.iload_n 3, 1, 0, 0, .null, .int) := by decide +kernel
theorem jF_106_62 : j_F 106 62 = some (.aload_n 0, 1, 0, 0, .null, .int) := by decide +kernel
theorem jF_106_63 : j_F 106 63 = some (.getfield 28, 3, 4, 1, .null, .int) := by decide +kernel
theorem jF_106_66 : j_F 106 66 = some (.if_icmp .ne 5, 3, 71, 0, .null, .int) := by decide +kernel
theorem jF_106_69 : j_F 106 69 = some (.iconst 0, 1, 0, 0, .null, .int) := by decide +kernel
theorem jF_106_70 : j_F 106 70 = some (.ireturn, 1, 0, 0, .null, .boolean) := by decide +kernel
theorem jF_106_71 : j_F 106 71 = some (.iload 6, 2, 0, 0, .null, .int) := by decide +kernel
theorem jF_106_73 : j_F 106 73 = some (.iconst (-1), 1, 0, 0, .null, .int) := by decide +kernel
theorem jF_106_74 : j_F 106 74 = some (.if_icmp .ne 12, 3, 86, 0, .null, .int) := by decide +kernel
theorem jF_106_77 : j_F 106 77 = some (.aload_n 0, 1, 0, 0, .null, .int) := by decide +kernel
theorem jF_106_78 : j_F 106 78 = some (.getfield 15, 3, 4, 3, .null, (.array .int)) := by decide +kernel
theorem jF_106_81 : j_F 106 81 = some (.iload_n 3, 1, 0, 0, .null, .int) := by decide +kernel
theorem jF_106_82 : j_F 106 82 = some (.iaload, 1, 0, 0, .null, .int) := by decide +kernel
theorem jF_106_83 : j_F 106 83 = some (.goto 14, 3, 97, 0, .null, .int) := by decide +kernel
theorem jF_106_86 : j_F 106 86 = some (.aload_n 0, 1, 0, 0, .null, .int) := by decide +kernel
theorem jF_106_87 : j_F 106 87 = some (.getfield 15, 3, 4, 3, .null, (.array .int)) := by decide +kernel
theorem jF_106_90 : j_F 106 90 = some (.iload_n 3, 1, 0, 0, .null, .int) := by decide +kernel
theorem jF_106_91 : j_F 106 91 = some (.iaload, 1, 0, 0, .null, .int) := by decide +kernel
theorem jF_106_92 : j_F 106 92 = some (.iload 6, 2, 0, 0, .null, .int) := by decide +kernel
theorem jF_106_94 : j_F 106 94 = some (.invokestatic 73, 3, 78, 2, .null, .int) := by decide +kernel
theorem jF_106_97 : j_F 106 97 = some (.istore 7, 2, 0, 0, .null, .int) := by decide +kernel
theorem jF_106_99 : j_F 106 99 = some (.iload 7, 2, 0, 0, .null, .int) := by decide +kernel
theorem jF_106_101 : j_F 106 101 = some (.iconst (-1), 1, 0, 0, .null, .int) := by decide +kernel
theorem jF_106_102 : j_F 106 102 = some (.if_icmp .eq 18, 3, 120, 0, .null, .int) := by decide +kernel
theorem jF_106_105 : j_F 106 105 = some (.iload 6, 2, 0, 0, .null, .int) := by decide +kernel
theorem jF_106_107 : j_F 106 107 = some (.iconst (-1), 1, 0, 0, .null, .int) := by decide +kernel
theorem jF_106_108 : j_F 106 108 = some (.if_icmp .eq 14, 3, 122, 0, .null, .int) := by decide +kernel
theorem jF_106_111 : j_F 106 111 = some (.aload_n 1, 1, 0, 0, .null, .int) := by decide +kernel
theorem jF_106_112 : j_F 106 112 = some (.iload 6, 2, 0, 0, .null, .int) := by decide +kernel
theorem jF_106_114 : j_F 106 114 = some (.invokevirtual 67, 3, 108, 2, .null, .int) := by decide +kernel
theorem jF_106_117 : j_F 106 117 = some (.ifCond .ne 5, 3, 122, 0, .null, .int) := by decide +kernel
theorem jF_106_120 : j_F 106 120 = some (.iconst 0, 1, 0, 0, .null, .int) := by decide +kernel
theorem jF_106_121 : j_F 106 121 = some (.ireturn, 1, 0, 0, .null, .boolean) := by decide +kernel
theorem jF_106_122 : j_F 106 122 = some (.iload 6, 2, 0, 0, .null, .int) := by decide +kernel
theorem jF_106_124 : j_F 106 124 = some (.iconst (-1), 1, 0, 0, .null, .int) := by decide +kernel
theorem jF_106_125 : j_F 106 125 = some (.if_icmp .ne 7, 3, 132, 0, .null, .int) := by decide +kernel
theorem jF_106_128 : j_F 106 128 = some (.iconst 0, 1, 0, 0, .null, .int) := by decide +kernel
theorem jF_106_129 : j_F 106 129 = some (.goto 8, 3, 137, 0, .null, .int) := by decide +kernel
theorem jF_106_132 : j_F 106 132 = some (.iload 6, 2, 0, 0, .null, .int) := by decide +kernel
theorem jF_106_134 : j_F 106 134 = some (.invokestatic 42, 3, 81, 1, .null, .int) := by decide +kernel
theorem jF_106_137 : j_F 106 137 = some (.istore 8, 2, 0, 0, .null, .int) := by decide +kernel
theorem jF_106_139 : j_F 106 139 = some (.iload 5, 2, 0, 0, .null, .int) := by decide +kernel
theorem jF_106_141 : j_F 106 141 = some (.ifCond .ne 17, 3, 158, 0, .null, .int) := by decide +kernel
theorem jF_106_144 : j_F 106 144 = some (.iload 8, 2, 0, 0, .null, .int) := by decide +kernel
theorem jF_106_146 : j_F 106 146 = some (.aload_n 0, 1, 0, 0, .null, .int) := by decide +kernel
theorem jF_106_147 : j_F 106 147 = some (.getfield 9, 3, 4, 0, .null, (.array .int)) := by decide +kernel
theorem jF_106_150 : j_F 106 150 = some (.iload_n 3, 1, 0, 0, .null, .int) := by decide +kernel
theorem jF_106_151 : j_F 106 151 = some (.iaload, 1, 0, 0, .null, .int) := by decide +kernel
theorem jF_106_152 : j_F 106 152 = some (.invokestatic 42, 3, 81, 1, .null, .int) := by decide +kernel
theorem jF_106_155 : j_F 106 155 = some (.isub, 1, 0, 0, .null, .int) := by decide +kernel
theorem jF_106_156 : j_F 106 156 = some (.istore 8, 2, 0, 0, .null, .int) := by decide +kernel
theorem jF_106_158 : j_F 106 158 = some (.aload_n 0, 1, 0, 0, .null, .int) := by decide +kernel
theorem jF_106_159 : j_F 106 159 = some (.getfield 32, 3, 4, 2, .null, .int) := by decide +kernel
theorem jF_106_162 : j_F 106 162 = some (.iload 8, 2, 0, 0, .null, .int) := by decide +kernel
theorem jF_106_164 : j_F 106 164 = some (.iadd, 1, 0, 0, .null, .int) := by decide +kernel
theorem jF_106_165 : j_F 106 165 = some (.aload_n 1, 1, 0, 0, .null, .int) := by decide +kernel
theorem jF_106_166 : j_F 106 166 = some (.getfield 77, 3, 8, 10, .null, .int) := by decide +kernel
theorem jF_106_169 : j_F 106 169 = some (.if_icmp .gt 19, 3, 188, 0, .null, .int) := by decide +kernel
theorem jF_106_172 : j_F 106 172 = some (.iload 5, 2, 0, 0, .null, .int) := by decide +kernel
theorem jF_106_174 : j_F 106 174 = some (.ifCond .ne 16, 3, 190, 0, .null, .int) := by decide +kernel
theorem jF_106_177 : j_F 106 177 = some (.iload 6, 2, 0, 0, .null, .int) := by decide +kernel
theorem jF_106_179 : j_F 106 179 = some (.aload_n 0, 1, 0, 0, .null, .int) := by decide +kernel
theorem jF_106_180 : j_F 106 180 = some (.getfield 9, 3, 4, 0, .null, (.array .int)) := by decide +kernel
theorem jF_106_183 : j_F 106 183 = some (.iload_n 3, 1, 0, 0, .null, .int) := by decide +kernel
theorem jF_106_184 : j_F 106 184 = some (.iaload, 1, 0, 0, .null, .int) := by decide +kernel
theorem jF_106_185 : j_F 106 185 = some (.if_icmp .ne 5, 3, 190, 0, .null, .int) := by decide +kernel
theorem jF_106_188 : j_F 106 188 = some (.iconst 0, 1, 0, 0, .null, .int) := by decide +kernel
theorem jF_106_189 : j_F 106 189 = some (.ireturn, 1, 0, 0, .null, .boolean) := by decide +kernel
theorem jF_106_190 : j_F 106 190 = some (.aload_n 0, 1, 0, 0, .null, .int) := by decide +kernel
theorem jF_106_191 : j_F 106 191 = some (.iload 5, 2, 0, 0, .null, .int) := by decide +kernel
theorem jF_106_193 : j_F 106 193 = some (.ifCond .eq 7, 3, 200, 0, .null, .int) := by decide +kernel
theorem jF_106_196 : j_F 106 196 = some (.iload_n 3, 1, 0, 0, .null, .int) := by decide +kernel
theorem jF_106_197 : j_F 106 197 = some (.goto 6, 3, 203, 0, .null, .int) := by decide +kernel
theorem jF_106_200 : j_F 106 200 = some (.iload_n 3, 1, 0, 0, .null, .int) := by decide +kernel
theorem jF_106_201 : j_F 106 201 = some (.iconst 1, 1, 0, 0, .null, .int) := by decide +kernel
theorem jF_106_202 : j_F 106 202 = some (.iadd, 1, 0, 0, .null, .int) := by decide +kernel
theorem jF_106_203 : j_F 106 203 = some (.iload 7, 2, 0, 0, .null, .int) := by decide +kernel
theorem jF_106_205 : j_F 106 205 = some (.invokevirtual 118, 3, 109, 3, .null, .int) := by decide +kernel
theorem jF_106_208 : j_F 106 208 = some (.ireturn, 1, 0, 0, .null, .boolean) := by decide +kernel
theorem jF_107_0 : j_F 107 0 = some (.iload_n 0, 1, 0, 0, .null, .int) := by decide +kernel
theorem jF_107_1 : j_F 107 1 = some (.bipush 24, 2, 0, 0, .null, .int) := by decide +kernel
theorem jF_107_3 : j_F 107 3 = some (.if_icmp .lt 10, 3, 13, 0, .null, .int) := by decide +kernel
theorem jF_107_6 : j_F 107 6 = some (.iload_n 0, 1, 0, 0, .null, .int) := by decide +kernel
theorem jF_107_7 : j_F 107 7 = some (.bipush 24, 2, 0, 0, .null, .int) := by decide +kernel
theorem jF_107_9 : j_F 107 9 = some (.isub, 1, 0, 0, .null, .int) := by decide +kernel
theorem jF_107_10 : j_F 107 10 = some (.goto 6, 3, 16, 0, .null, .int) := by decide +kernel
theorem jF_107_13 : j_F 107 13 = some (.iload_n 0, 1, 0, 0, .null, .int) := by decide +kernel
theorem jF_107_14 : j_F 107 14 = some (.iconst 1, 1, 0, 0, .null, .int) := by decide +kernel
theorem jF_107_15 : j_F 107 15 = some (.isub, 1, 0, 0, .null, .int) := by decide +kernel
theorem jF_107_16 : j_F 107 16 = some (.ireturn, 1, 0, 0, .null, .int) := by decide +kernel
theorem jF_109_0 : j_F 109 0 = some (.iload_n 2, 1, 0, 0, .null, .int) := by decide +kernel
theorem jF_109_1 : j_F 109 1 = some (.istore_n 3, 1, 0, 0, .null, .int) := by decide +kernel
theorem jF_109_2 : j_F 109 2 = some (.iload_n 1, 1, 0, 0, .null, .int) := by decide +kernel
theorem jF_109_3 : j_F 109 3 = some (.istore 4, 2, 0, 0, .null, .int) := by decide +kernel
theorem jF_109_5 : j_F 109 5 = some (.iload 4, 2, 0, 0, .null, .int) := by decide +kernel
theorem jF_109_7 : j_F 109 7 = some (.aload_n 0, 1, 0, 0, .null, .int) := by decide +kernel
theorem jF_109_8 : j_F 109 8 = some (.getfield 28, 3, 4, 1, .null, .int) := by decide +kernel
theorem jF_109_11 : j_F 109 11 = some (.if_icmp .ge 48, 3, 59, 0, .null, .int) := by decide +kernel
theorem jF_109_14 : j_F 109 14 = some (.iload_n 3, 1, 0, 0, .null, .int) := by decide +kernel
theorem jF_109_15 : j_F 109 15 = some (.iconst (-1), 1, 0, 0, .null, .int) := by decide +kernel
theorem jF_109_16 : j_F 109 16 = some (.if_icmp .eq 14, 3, 30, 0, .null, .int) := by decide +kernel
theorem jF_109_19 : j_F 109 19 = some (.iload_n 3, 1, 0, 0, .null, .int) := by decide +kernel
theorem jF_109_20 : j_F 109 20 = some (.aload_n 0, 1, 0, 0, .null, .int) := by decide +kernel
theorem jF_109_21 : j_F 109 21 = some (.getfield 15, 3, 4, 3, .null, (.array .int)) := by decide +kernel
theorem jF_109_24 : j_F 109 24 = some (.iload 4, 2, 0, 0, .null, .int) := by decide +kernel
theorem jF_109_26 : j_F 109 26 = some (.iaload, 1, 0, 0, .null, .int) := by decide +kernel
theorem jF_109_27 : j_F 109 27 = some (.if_icmp .ne 14, 3, 41, 0, .null, .int) := by decide +kernel
theorem jF_109_30 : j_F 109 30 = some (.iload_n 3, 1, 0, 0, .null, .int) := by decide +kernel
theorem jF_109_31 : j_F 109 31 = some (.iconst (-1), 1, 0, 0, .null, .int) := by decide +kernel
theorem jF_109_32 : j_F 109 32 = some (.if_icmp .eq 7, 3, 39, 0, .null, .int) := by decide +kernel
theorem jF_109_35 : j_F 109 35 = some (.iconst 1, 1, 0, 0, .null, .int) := by decide +kernel
theorem jF_109_36 : j_F 109 36 = some (.goto 4, 3, 40, 0, .null, .int) := by decide +kernel
theorem jF_109_39 : j_F 109 39 = some (.iconst 0, 1, 0, 0, .null, .int) := by decide +kernel
theorem jF_109_40 : j_F 109 40 = some (.ireturn, 1, 0, 0, .null, .boolean) := by decide +kernel
theorem jF_109_41 : j_F 109 41 = some (.iload_n 3, 1, 0, 0, .null, .int) := by decide +kernel
theorem jF_109_42 : j_F 109 42 = some (.aload_n 0, 1, 0, 0, .null, .int) := by decide +kernel
theorem jF_109_43 : j_F 109 43 = some (.getfield 9, 3, 4, 0, .null, (.array .int)) := by decide +kernel
theorem jF_109_46 : j_F 109 46 = some (.iload 4, 2, 0, 0, .null, .int) := by decide +kernel
theorem jF_109_48 : j_F 109 48 = some (.iaload, 1, 0, 0, .null, .int) := by decide +kernel
theorem jF_109_49 : j_F 109 49 = some (.invokestatic 73, 3, 78, 2, .null, .int) := by decide +kernel
theorem jF_109_52 : j_F 109 52 = some (.istore_n 3, 1, 0, 0, .null, .int) := by decide +kernel
theorem jF_109_53 : j_F 109 53 = some (.iinc 4 1, 3, 0, 0, .null, .int) := by decide +kernel
theorem jF_109_56 : j_F 109 56 = some (.goto (-51), 3, 5, 0, .null, .int) := by decide +kernel
theorem jF_109_59 : j_F 109 59 = some (.iload_n 3, 1, 0, 0, .null, .int) := by decide +kernel
theorem jF_109_60 : j_F 109 60 = some (.ifCond .ne 7, 3, 67, 0, .null, .int) := by decide +kernel
theorem jF_109_63 : j_F 109 63 = some (.iconst 1, 1, 0, 0, .null, .int) := by decide +kernel
theorem jF_109_64 : j_F 109 64 = some (.goto 4, 3, 68, 0, .null, .int) := by decide +kernel
theorem jF_109_67 : j_F 109 67 = some (.iconst 0, 1, 0, 0, .null, .int) := by decide +kernel
theorem jF_109_68 : j_F 109 68 = some (.ireturn, 1, 0, 0, .null, .boolean) := by decide +kernel
theorem jF_110_0 : j_F 110 0 = some (.iload_n 2, 1, 0, 0, .null, .int) := by decide +kernel
theorem jF_110_1 : j_F 110 1 = some (.bipush 47, 2, 0, 0, .null, .int) := by decide +kernel
theorem jF_110_3 : j_F 110 3 = some (.idiv, 1, 0, 0, .null, .int) := by decide +kernel
theorem jF_110_4 : j_F 110 4 = some (.istore_n 3, 1, 0, 0, .null, .int) := by decide +kernel
theorem jF_110_5 : j_F 110 5 = some (.iload_n 2, 1, 0, 0, .null, .int) := by decide +kernel
theorem jF_110_6 : j_F 110 6 = some (.bipush 47, 2, 0, 0, .null, .int) := by decide +kernel
theorem jF_110_8 : j_F 110 8 = some (.irem, 1, 0, 0, .null, .int) := by decide +kernel
theorem jF_110_9 : j_F 110 9 = some (.istore 4, 2, 0, 0, .null, .int) := by decide +kernel
theorem jF_110_11 : j_F 110 11 = some (.iload 4, 2, 0, 0, .null, .int) := by decide +kernel
theorem jF_110_13 : j_F 110 13 = some (.invokestatic 115, 3, 107, 1, .null, .int) := by decide +kernel
theorem jF_110_16 : j_F 110 16 = some (.istore 5, 2, 0, 0, .null, .int) := by decide +kernel
theorem jF_110_18 : j_F 110 18 = some (.iload 4, 2, 0, 0, .null, .int) := by decide +kernel
theorem jF_110_20 : j_F 110 20 = some (.bipush 24, 2, 0, 0, .null, .int) := by decide +kernel
theorem jF_110_22 : j_F 110 22 = some (.if_icmp .lt 7, 3, 29, 0, .null, .int) := by decide +kernel
theorem jF_110_25 : j_F 110 25 = some (.iload_n 3, 1, 0, 0, .null, .int) := by decide +kernel
theorem jF_110_26 : j_F 110 26 = some (.goto 6, 3, 32, 0, .null, .int) := by decide +kernel
theorem jF_110_29 : j_F 110 29 = some (.iload_n 3, 1, 0, 0, .null, .int) := by decide +kernel
theorem jF_110_30 : j_F 110 30 = some (.iconst 1, 1, 0, 0, .null, .int) := by decide +kernel
theorem jF_110_31 : j_F 110 31 = some (.iadd, 1, 0, 0, .null, .int) := by decide +kernel
theorem jF_110_32 : j_F 110 32 = some (.istore 6, 2, 0, 0, .null, .int) := by decide +kernel
theorem jF_110_34 : j_F 110 34 = some (.iload 5, 2, 0, 0, .null, .int) := by decide +kernel
theorem jF_110_36 : j_F 110 36 = some (.iconst (-1), 1, 0, 0, .null, .int) := by decide +kernel
theorem jF_110_37 : j_F 110 37 = some (.if_icmp .ne 7, 3, 44, 0, .null, .int) := by decide +kernel
theorem jF_110_40 : j_F 110 40 = some (.iload_n 3, 1, 0, 0, .null, .int) := by decide +kernel
theorem jF_110_41 : j_F 110 41 = some (.goto 6, 3, 47, 0, .null, .int) := by decide +kernel
theorem jF_110_44 : j_F 110 44 = some (.iload_n 3, 1, 0, 0, .null, .int) := by decide +kernel
theorem jF_110_45 : j_F 110 45 = some (.iconst 1, 1, 0, 0, .null, .int) := by decide +kernel
theorem jF_110_46 : j_F 110 46 = some (.iadd, 1, 0, 0, .null, .int) := by decide +kernel
theorem jF_110_47 : j_F 110 47 = some (.istore 7, 2, 0, 0, .null, .int) := by decide +kernel
theorem jF_110_49 : j_F 110 49 = some (.aload_n 1, 1, 0, 0, .null, .int) := by decide +kernel
theorem jF_110_50 : j_F 110 50 = some (.getfield 9, 3, 4, 0, .null, (.array .int)) := by decide +kernel
theorem jF_110_53 : j_F 110 53 = some (.iconst 0, 1, 0, 0, .null, .int) := by decide +kernel
theorem jF_110_54 : j_F 110 54 = some (.aload_n 0, 1, 0, 0, .null, .int) := by decide +kernel
theorem jF_110_55 : j_F 110 55 = some (.getfield 9, 3, 4, 0, .null, (.array .int)) := by decide +kernel
theorem jF_110_58 : j_F 110 58 = some (.iconst 0, 1, 0, 0, .null, .int) := by decide +kernel
theorem jF_110_59 : j_F 110 59 = some (.iload_n 3, 1, 0, 0, .null, .int) := by decide +kernel
theorem jF_110_60 : j_F 110 60 = some (.invokestatic 46, 3, 1001, 0, .null, .int) := by decide +kernel
theorem jF_110_63 : j_F 110 63 = some (.iload 5, 2, 0, 0, .null, .int) := by decide +kernel
theorem jF_110_65 : j_F 110 65 = some (.iconst (-1), 1, 0, 0, .null, .int) := by decide +kernel
theorem jF_110_66 : j_F 110 66 = some (.if_icmp .eq 11, 3, 77, 0, .null, .int) := by decide +kernel
theorem jF_110_69 : j_F 110 69 = some (.aload_n 0, 1, 0, 0, .null, .int) := by decide +kernel
theorem jF_110_70 : j_F 110 70 = some (.getfield 9, 3, 4, 0, .null, (.array .int)) := by decide +kernel
theorem jF_110_73 : j_F 110 73 = some (.iload_n 3, 1, 0, 0, .null, .int) := by decide +kernel
theorem jF_110_74 : j_F 110 74 = some (.iload 5, 2, 0, 0, .null, .int) := by decide +kernel
theorem jF_110_76 : j_F 110 76 = some (.iastore, 1, 0, 0, .null, .int) := by decide +kernel
theorem jF_110_77 : j_F 110 77 = some (.aload_n 1, 1, 0, 0, .null, .int) := by decide +kernel
theorem jF_110_78 : j_F 110 78 = some (.getfield 9, 3, 4, 0, .null, (.array .int)) := by decide +kernel
theorem jF_110_81 : j_F 110 81 = some (.iload 6, 2, 0, 0, .null, .int) := by decide +kernel
theorem jF_110_83 : j_F 110 83 = some (.aload_n 0, 1, 0, 0, .null, .int) := by decide +kernel
theorem jF_110_84 : j_F 110 84 = some (.getfield 9, 3, 4, 0, .null, (.array .int)) := by decide +kernel
theorem jF_110_87 : j_F 110 87 = some (.iload 7, 2, 0, 0, .null, .int) := by decide +kernel
theorem jF_110_89 : j_F 110 89 = some (.aload_n 1, 1, 0, 0, .null, .int) := by decide +kernel
theorem jF_110_90 : j_F 110 90 = some (.getfield 28, 3, 4, 1, .null, .int) := by decide +kernel
theorem jF_110_93 : j_F 110 93 = some (.iload 6, 2, 0, 0, .null, .int) := by decide +kernel
theorem jF_110_95 : j_F 110 95 = some (.isub, 1, 0, 0, .null, .int) := by decide +kernel
theorem jF_110_96 : j_F 110 96 = some (.invokestatic 46, 3, 1001, 0, .null, .int) := by decide +kernel
theorem jF_110_99 : j_F 110 99 = some (.aload_n 0, 1, 0, 0, .null, .int) := by decide +kernel
theorem jF_110_100 : j_F 110 100 = some (.iload 7, 2, 0, 0, .null, .int) := by decide +kernel
theorem jF_110_102 : j_F 110 102 = some (.aload_n 1, 1, 0, 0, .null, .int) := by decide +kernel
theorem jF_110_103 : j_F 110 103 = some (.getfield 28, 3, 4, 1, .null, .int) := by decide +kernel
theorem jF_110_106 : j_F 110 106 = some (.iadd, 1, 0, 0, .null, .int) := by decide +kernel
theorem jF_110_107 : j_F 110 107 = some (.iload 6, 2, 0, 0, .null, .int) := by decide +kernel
theorem jF_110_109 : j_F 110 109 = some (.isub, 1, 0, 0, .null, .int) := by decide +kernel
theorem jF_110_110 : j_F 110 110 = some (.putfield 28, 3, 4, 1, .null, .int) := by decide +kernel
theorem jF_110_113 : j_F 110 113 = some (.return_, 1, 0, 0, .null, .int) := by decide +kernel
theorem jF_111_0 : j_F 111 0 = some (.aload_n 2, 1, 0, 0, .null, .int) := by decide +kernel
theorem jF_111_1 : j_F 111 1 = some (.iload_n 3, 1, 0, 0, .null, .int) := by decide +kernel
theorem jF_111_2 : j_F 111 2 = some (.invokevirtual 122, 3, 112, 2, .null, .int) := by decide +kernel
theorem jF_111_5 : j_F 111 5 = some (.istore 4, 2, 0, 0, .null, .int) := by decide +kernel
theorem jF_111_7 : j_F 111 7 = some (.aload_n 0, 1, 0, 0, .null, .int) := by decide +kernel
theorem jF_111_8 : j_F 111 8 = some (.getfield 28, 3, 4, 1, .null, .int) := by decide +kernel
theorem jF_111_11 : j_F 111 11 = some (.aload_n 2, 1, 0, 0, .null, .int) := by decide +kernel
theorem jF_111_12 : j_F 111 12 = some (.getfield 28, 3, 4, 1, .null, .int) := by decide +kernel
theorem jF_111_15 : j_F 111 15 = some (.isub, 1, 0, 0, .null, .int) := by decide +kernel
theorem jF_111_16 : j_F 111 16 = some (.istore 5, 2, 0, 0, .null, .int) := by decide +kernel
theorem jF_111_18 : j_F 111 18 = some (.aload_n 0, 1, 0, 0, .null, .int) := by decide +kernel
theorem jF_111_19 : j_F 111 19 = some (.lconst 0, 1, 0, 0, .null, .int) := by decide +kernel
theorem jF_111_20 : j_F 111 20 = some (.putfield 38, 3, 4, 7, .null, .long) := by decide +kernel
theorem jF_111_23 : j_F 111 23 = some (.iconst 0, 1, 0, 0, .null, .int) := by decide +kernel
theorem jF_111_24 : j_F 111 24 = some (.istore 6, 2, 0, 0, .null, .int) := by decide +kernel
theorem jF_111_26 : j_F 111 26 = some (.iload 6, 2, 0, 0, .null, .int) := by decide +kernel
theorem jF_111_28 : j_F 111 28 = some (.iload 4, 2, 0, 0, .null, .int) := by decide +kernel
theorem jF_111_30 : j_F 111 30 = some (.if_icmp .ge 25, 3, 55, 0, .null, .int) := by decide +kernel
theorem jF_111_33 : j_F 111 33 = some (.aload_n 0, 1, 0, 0, .null, .int) := by decide +kernel
theorem jF_111_34 : j_F 111 34 = some (.dup, 1, 0, 0, .null, .int) := by decide +kernel
theorem jF_111_35 : j_F 111 35 = some (.getfield 38, 3, 4, 7, .null, .long) := by decide +kernel
theorem jF_111_38 : j_F 111 38 = some (.aload_n 2, 1, 0, 0, .null, .int) := by decide +kernel
theorem jF_111_39 : j_F 111 39 = some (.getfield 21, 3, 4, 5, .null, (.array .long)) := by decide +kernel
theorem jF_111_42 : j_F 111 42 = some (.iload 6, 2, 0, 0, .null, .int) := by decide +kernel
theorem jF_111_44 : j_F 111 44 = some (.laload, 1, 0, 0, .null, .int) := by decide +kernel
theorem jF_111_45 : j_F 111 45 = some (.lor, 1, 0, 0, .null, .int) := by decide +kernel
theorem jF_111_46 : j_F 111 46 = some (.putfield 38, 3, 4, 7, .null, .long) := by decide +kernel
theorem jF_111_49 : j_F 111 49 = some (.iinc 6 1, 3, 0, 0, .null, .int) := by decide +kernel
theorem jF_111_52 : j_F 111 52 = some (.goto (-26), 3, 26, 0, .null, .int) := by decide +kernel
theorem jF_111_55 : j_F 111 55 = some (.aload_n 0, 1, 0, 0, .null, .int) := by decide +kernel
theorem jF_111_56 : j_F 111 56 = some (.aload_n 2, 1, 0, 0, .null, .int) := by decide +kernel
theorem jF_111_57 : j_F 111 57 = some (.getfield 18, 3, 4, 4, .null, (.array .int)) := by decide +kernel
theorem jF_111_60 : j_F 111 60 = some (.iload 4, 2, 0, 0, .null, .int) := by decide +kernel
theorem jF_111_62 : j_F 111 62 = some (.iaload, 1, 0, 0, .null, .int) := by decide +kernel
theorem jF_111_63 : j_F 111 63 = some (.putfield 80, 3, 4, 8, .null, .int) := by decide +kernel
theorem jF_111_66 : j_F 111 66 = some (.iload 4, 2, 0, 0, .null, .int) := by decide +kernel
theorem jF_111_68 : j_F 111 68 = some (.iconst 1, 1, 0, 0, .null, .int) := by decide +kernel
theorem jF_111_69 : j_F 111 69 = some (.iadd, 1, 0, 0, .null, .int) := by decide +kernel
theorem jF_111_70 : j_F 111 70 = some (.istore 6, 2, 0, 0, .null, .int) := by decide +kernel
theorem jF_111_72 : j_F 111 72 = some (.iconst 0, 1, 0, 0, .null, .int) := by decide +kernel
theorem jF_111_73 : j_F 111 73 = some (.istore 7, 2, 0, 0, .null, .int) := by decide +kernel
theorem jF_111_75 : j_F 111 75 = some (.iload 7, 2, 0, 0, .null, .int) := by decide +kernel
theorem jF_111_77 : j_F 111 77 = some (.bipush 30, 2, 0, 0, .null, .int) := by decide +kernel
theorem jF_111_79 : j_F 111 79 = some (.if_icmp .ge 86, 3, 165, 0, .null, .int) := by decide +kernel
theorem jF_111_82 : j_F 111 82 = some (.aload_n 0, 1, 0, 0, .null, .int) := by decide +kernel
theorem jF_111_83 : j_F 111 83 = some (.getfield 80, 3, 4, 8, .null, .int) := by decide +kernel
theorem jF_111_86 : j_F 111 86 = some (.aload_n 0, 1, 0, 0, .null, .int) := by decide +kernel
theorem jF_111_87 : j_F 111 87 = some (.getfield 28, 3, 4, 1, .null, .int) := by decide +kernel
theorem jF_111_90 : j_F 111 90 = some (.if_icmp .ge 75, 3, 165, 0, .null, .int) := by decide +kernel
theorem jF_111_93 : j_F 111 93 = some (.aload_n 0, 1, 0, 0, .null, .int) := by decide +kernel
theorem jF_111_94 : j_F 111 94 = some (.dup, 1, 0, 0, .null, .int) := by decide +kernel
theorem jF_111_95 : j_F 111 95 = some (.getfield 38, 3, 4, 7, .null, .long) := by decide +kernel
theorem jF_111_98 : j_F 111 98 = some (.aload_n 0, 1, 0, 0, .null, .int) := by decide +kernel
theorem jF_111_99 : j_F 111 99 = some (.aload_n 1, 1, 0, 0, .null, .int) := by decide +kernel
theorem jF_111_100 : j_F 111 100 = some (.invokevirtual 83, 3, 83, 2, .null, .int) := by decide +kernel
theorem jF_111_103 : j_F 111 103 = some (.lor, 1, 0, 0, .null, .int) := by decide +kernel
theorem jF_111_104 : j_F 111 104 = some (.putfield 38, 3, 4, 7, .null, .long) := by decide +kernel
theorem jF_111_107 : j_F 111 107 = some (.iload 6, 2, 0, 0, .null, .int) := by decide +kernel
theorem jF_111_109 : j_F 111 109 = some (.aload_n 2, 1, 0, 0, .null, .int) := by decide +kernel
theorem jF_111_110 : j_F 111 110 = some (.getfield 35, 3, 4, 6, .null, .int) := by decide +kernel
theorem jF_111_113 : j_F 111 113 = some (.if_icmp .ge 26, 3, 139, 0, .null, .int) := by decide +kernel
theorem jF_111_116 : j_F 111 116 = some (.aload_n 2, 1, 0, 0, .null, .int) := by decide +kernel
theorem jF_111_117 : j_F 111 117 = some (.getfield 18, 3, 4, 4, .null, (.array .int)) := by decide +kernel
theorem jF_111_120 : j_F 111 120 = some (.iload 6, 2, 0, 0, .null, .int) := by decide +kernel
theorem jF_111_122 : j_F 111 122 = some (.iaload, 1, 0, 0, .null, .int) := by decide +kernel
theorem jF_111_123 : j_F 111 123 = some (.iload 5, 2, 0, 0, .null, .int) := by decide +kernel
theorem jF_111_125 : j_F 111 125 = some (.iadd, 1, 0, 0, .null, .int) := by decide +kernel
theorem jF_111_126 : j_F 111 126 = some (.aload_n 0, 1, 0, 0, .null, .int) := by decide +kernel
theorem jF_111_127 : j_F 111 127 = some (.getfield 80, 3, 4, 8, .null, .int) := by decide +kernel
theorem jF_111_130 : j_F 111 130 = some (.if_icmp .ge 9, 3, 139, 0, .null, .int) := by decide +kernel
theorem jF_111_133 : j_F 111 133 = some (.iinc 6 1, 3, 0, 0, .null, .int) := by decide +kernel
theorem jF_111_136 : j_F 111 136 = some (.goto (-29), 3, 107, 0, .null, .int) := by decide +kernel
theorem jF_111_139 : j_F 111 139 = some (.aload_n 2, 1, 0, 0, .null, .int) := by decide +kernel
theorem jF_111_140 : j_F 111 140 = some (.getfield 18, 3, 4, 4, .null, (.array .int)) := by decide +kernel
theorem jF_111_143 : j_F 111 143 = some (.iload 6, 2, 0, 0, .null, .int) := by decide +kernel
theorem jF_111_145 : j_F 111 145 = some (.iaload, 1, 0, 0, .null, .int) := by decide +kernel
theorem jF_111_146 : j_F 111 146 = some (.iload 5, 2, 0, 0, .null, .int) := by decide +kernel
theorem jF_111_148 : j_F 111 148 = some (.iadd, 1, 0, 0, .null, .int) := by decide +kernel
theorem jF_111_149 : j_F 111 149 = some (.aload_n 0, 1, 0, 0, .null, .int) := by decide +kernel
theorem jF_111_150 : j_F 111 150 = some (.getfield 80, 3, 4, 8, .null, .int) := by decide +kernel
theorem jF_111_153 : j_F 111 153 = some (.if_icmp .ne 6, 3, 159, 0, .null, .int) := by decide +kernel
theorem jF_111_156 : j_F 111 156 = some (.goto 9, 3, 165, 0, .null, .int) := by decide +kernel
theorem jF_111_159 : j_F 111 159 = some (.iinc 7 1, 3, 0, 0, .null, .int) := by decide +kernel
theorem jF_111_162 : j_F 111 162 = some (.goto (-87), 3, 75, 0, .null, .int) := by decide +kernel
theorem jF_111_165 : j_F 111 165 = some (.iload 6, 2, 0, 0, .null, .int) := by decide +kernel
theorem jF_111_167 : j_F 111 167 = some (.istore 7, 2, 0, 0, .null, .int) := by decide +kernel
theorem jF_111_169 : j_F 111 169 = some (.iload 7, 2, 0, 0, .null, .int) := by decide +kernel
theorem jF_111_171 : j_F 111 171 = some (.aload_n 2, 1, 0, 0, .null, .int) := by decide +kernel
theorem jF_111_172 : j_F 111 172 = some (.getfield 35, 3, 4, 6, .null, .int) := by decide +kernel
theorem jF_111_175 : j_F 111 175 = some (.if_icmp .ge 25, 3, 200, 0, .null, .int) := by decide +kernel
theorem jF_111_178 : j_F 111 178 = some (.aload_n 0, 1, 0, 0, .null, .int) := by decide +kernel
theorem jF_111_179 : j_F 111 179 = some (.dup, 1, 0, 0, .null, .int) := by decide +kernel
theorem jF_111_180 : j_F 111 180 = some (.getfield 38, 3, 4, 7, .null, .long) := by decide +kernel
theorem jF_111_183 : j_F 111 183 = some (.aload_n 2, 1, 0, 0, .null, .int) := by decide +kernel
theorem jF_111_184 : j_F 111 184 = some (.getfield 21, 3, 4, 5, .null, (.array .long)) := by decide +kernel
theorem jF_111_187 : j_F 111 187 = some (.iload 7, 2, 0, 0, .null, .int) := by decide +kernel
theorem jF_111_189 : j_F 111 189 = some (.laload, 1, 0, 0, .null, .int) := by decide +kernel
theorem jF_111_190 : j_F 111 190 = some (.lor, 1, 0, 0, .null, .int) := by decide +kernel
theorem jF_111_191 : j_F 111 191 = some (.putfield 38, 3, 4, 7, .null, .long) := by decide +kernel
theorem jF_111_194 : j_F 111 194 = some (.iinc 7 1, 3, 0, 0, .null, .int) := by decide +kernel
theorem jF_111_197 : j_F 111 197 = some (.goto (-28), 3, 169, 0, .null, .int) := by decide +kernel
theorem jF_111_200 : j_F 111 200 = some (.return_, 1, 0, 0, .null, .int) := by decide +kernel
theorem jF_112_0 : j_F 112 0 = some (.iconst 0, 1, 0, 0, .null, .int) := by decide +kernel
theorem jF_112_1 : j_F 112 1 = some (.istore_n 2, 1, 0, 0, .null, .int) := by decide +kernel
theorem jF_112_2 : j_F 112 2 = some (.iload_n 2, 1, 0, 0, .null, .int) := by decide +kernel
theorem jF_112_3 : j_F 112 3 = some (.iconst 1, 1, 0, 0, .null, .int) := by decide +kernel
theorem jF_112_4 : j_F 112 4 = some (.iadd, 1, 0, 0, .null, .int) := by decide +kernel
theorem jF_112_5 : j_F 112 5 = some (.aload_n 0, 1, 0, 0, .null, .int) := by decide +kernel
theorem jF_112_6 : j_F 112 6 = some (.getfield 35, 3, 4, 6, .null, .int) := by decide +kernel
theorem jF_112_9 : j_F 112 9 = some (.if_icmp .ge 21, 3, 30, 0, .null, .int) := by decide +kernel
theorem jF_112_12 : j_F 112 12 = some (.aload_n 0, 1, 0, 0, .null, .int) := by decide +kernel
theorem jF_112_13 : j_F 112 13 = some (.getfield 18, 3, 4, 4, .null, (.array .int)) := by decide +kernel
theorem jF_112_16 : j_F 112 16 = some (.iload_n 2, 1, 0, 0, .null, .int) := by decide +kernel
theorem jF_112_17 : j_F 112 17 = some (.iconst 1, 1, 0, 0, .null, .int) := by decide +kernel
theorem jF_112_18 : j_F 112 18 = some (.iadd, 1, 0, 0, .null, .int) := by decide +kernel
theorem jF_112_19 : j_F 112 19 = some (.iaload, 1, 0, 0, .null, .int) := by decide +kernel
theorem jF_112_20 : j_F 112 20 = some (.iload_n 1, 1, 0, 0, .null, .int) := by decide +kernel
theorem jF_112_21 : j_F 112 21 = some (.if_icmp .gt 9, 3, 30, 0, .null, .int) := by decide +kernel
theorem jF_112_24 : j_F 112 24 = some (.iinc 2 1, 3, 0, 0, .null, .int) := by decide +kernel
theorem jF_112_27 : j_F 112 27 = some (.goto (-25), 3, 2, 0, .null, .int) := by decide +kernel
theorem jF_112_30 : j_F 112 30 = some (.iload_n 2, 1, 0, 0, .null, .int) := by decide +kernel
theorem jF_112_31 : j_F 112 31 = some (.ireturn, 1, 0, 0, .null, .int) := by decide +kernel
theorem jF_138_0 : j_F 138 0 = some (.iload_n 0, 1, 0, 0, .null, .int) := by decide +kernel
theorem jF_138_1 : j_F 138 1 = some (.iload_n 1, 1, 0, 0, .null, .int) := by decide +kernel
theorem jF_138_2 : j_F 138 2 = some (.if_icmp .gt 7, 3, 9, 0, .null, .int) := by decide +kernel
theorem jF_138_5 : j_F 138 5 = some (.iload_n 0, 1, 0, 0, .null, .int) := by decide +kernel
theorem jF_138_6 : j_F 138 6 = some (.goto 4, 3, 10, 0, .null, .int) := by decide +kernel
theorem jF_138_9 : j_F 138 9 = some (.iload_n 1, 1, 0, 0, .null, .int) := by decide +kernel
theorem jF_138_10 : j_F 138 10 = some (.ireturn, 1, 0, 0, .null, .int) := by decide +kernel
theorem jF_139_0 : j_F 139 0 = some (.iload_n 0, 1, 0, 0, .null, .int) := by decide +kernel
theorem jF_139_1 : j_F 139 1 = some (.iload_n 1, 1, 0, 0, .null, .int) := by decide +kernel
theorem jF_139_2 : j_F 139 2 = some (.if_icmp .lt 7, 3, 9, 0, .null, .int) := by decide +kernel
theorem jF_139_5 : j_F 139 5 = some (.iload_n 0, 1, 0, 0, .null, .int) := by decide +kernel
theorem jF_139_6 : j_F 139 6 = some (.goto 4, 3, 10, 0, .null, .int) := by decide +kernel
theorem jF_139_9 : j_F 139 9 = some (.iload_n 1, 1, 0, 0, .null, .int) := by decide +kernel
theorem jF_139_10 : j_F 139 10 = some (.ireturn, 1, 0, 0, .null, .int) := by decide +kernel
theorem jF_146_0 : j_F 146 0 = some (.aload_n 0, 1, 0, 0, .null, .int) := by decide +kernel
theorem jF_146_1 : j_F 146 1 = some (.getfield 28, 3, 4, 1, .null, .int) := by decide +kernel
theorem jF_146_4 : j_F 146 4 = some (.aload_n 1, 1, 0, 0, .null, .int) := by decide +kernel
theorem jF_146_5 : j_F 146 5 = some (.getfield 28, 3, 4, 1, .null, .int) := by decide +kernel
theorem jF_146_8 : j_F 146 8 = some (.if_icmp .ne 7, 3, 15, 0, .null, .int) := by decide +kernel
theorem jF_146_11 : j_F 146 11 = some (.iconst 1, 1, 0, 0, .null, .int) := by decide +kernel
theorem jF_146_12 : j_F 146 12 = some (.goto 4, 3, 16, 0, .null, .int) := by decide +kernel
theorem jF_146_15 : j_F 146 15 = some (.iconst 0, 1, 0, 0, .null, .int) := by decide +kernel
theorem jF_146_16 : j_F 146 16 = some (.istore_n 2, 1, 0, 0, .null, .int) := by decide +kernel
theorem jF_146_17 : j_F 146 17 = some (.iconst 0, 1, 0, 0, .null, .int) := by decide +kernel
theorem jF_146_18 : j_F 146 18 = some (.istore_n 3, 1, 0, 0, .null, .int) := by decide +kernel
theorem jF_146_19 : j_F 146 19 = some (.iload_n 3, 1, 0, 0, .null, .int) := by decide +kernel
theorem jF_146_20 : j_F 146 20 = some (.aload_n 0, 1, 0, 0, .null, .int) := by decide +kernel
theorem jF_146_21 : j_F 146 21 = some (.getfield 28, 3, 4, 1, .null, .int) := by decide +kernel
theorem jF_146_24 : j_F 146 24 = some (.if_icmp .ge 34, 3, 58, 0, .null, .int) := by decide +kernel
theorem jF_146_27 : j_F 146 27 = some (.iload_n 2, 1, 0, 0, .null, .int) := by decide +kernel
theorem jF_146_28 : j_F 146 28 = some (.ifCond .eq 30, 3, 58, 0, .null, .int) := by decide +kernel
theorem jF_146_31 : j_F 146 31 = some (.aload_n 0, 1, 0, 0, .null, .int) := by decide +kernel
theorem jF_146_32 : j_F 146 32 = some (.getfield 9, 3, 4, 0, .null, (.array .int)) := by decide +kernel
theorem jF_146_35 : j_F 146 35 = some (.iload_n 3, 1, 0, 0, .null, .int) := by decide +kernel
theorem jF_146_36 : j_F 146 36 = some (.iaload, 1, 0, 0, .null, .int) := by decide +kernel
theorem jF_146_37 : j_F 146 37 = some (.aload_n 1, 1, 0, 0, .null, .int) := by decide +kernel
theorem jF_146_38 : j_F 146 38 = some (.getfield 9, 3, 4, 0, .null, (.array .int)) := by decide +kernel
theorem jF_146_41 : j_F 146 41 = some (.iload_n 3, 1, 0, 0, .null, .int) := by decide +kernel
theorem jF_146_42 : j_F 146 42 = some (.iaload, 1, 0, 0, .null, .int) := by decide +kernel
theorem jF_146_43 : j_F 146 43 = some (.if_icmp .ne 7, 3, 50, 0, .null, .int) := by decide +kernel
theorem jF_146_46 : j_F 146 46 = some (.iconst 1, 1, 0, 0, .null, .int) := by decide +kernel
theorem jF_146_47 : j_F 146 47 = some (.goto 4, 3, 51, 0, .null, .int) := by decide +kernel
theorem jF_146_50 : j_F 146 50 = some (.iconst 0, 1, 0, 0, .null, .int) := by decide +kernel
theorem jF_146_51 : j_F 146 51 = some (.istore_n 2, 1, 0, 0, .null, .int) := by decide +kernel
theorem jF_146_52 : j_F 146 52 = some (.iinc 3 1, 3, 0, 0, .null, .int) := by decide +kernel
theorem jF_146_55 : j_F 146 55 = some (.goto (-36), 3, 19, 0, .null, .int) := by decide +kernel
theorem jF_146_58 : j_F 146 58 = some (.iload_n 2, 1, 0, 0, .null, .int) := by decide +kernel
theorem jF_146_59 : j_F 146 59 = some (.ireturn, 1, 0, 0, .null, .boolean) := by decide +kernel
theorem jF_208_0 : j_F 208 0 = some (.aload_n 1, 1, 0, 0, .null, .int) := by decide +kernel
theorem jF_208_1 : j_F 208 1 = some (.iload_n 2, 1, 0, 0, .null, .int) := by decide +kernel
theorem jF_208_2 : j_F 208 2 = some (.invokevirtual 52, 3, 39, 2, .null, .int) := by decide +kernel
theorem jF_208_5 : j_F 208 5 = some (.istore_n 3, 1, 0, 0, .null, .int) := by decide +kernel
theorem jF_208_6 : j_F 208 6 = some (.iload_n 3, 1, 0, 0, .null, .int) := by decide +kernel
theorem jF_208_7 : j_F 208 7 = some (.iconst (-1), 1, 0, 0, .null, .int) := by decide +kernel
theorem jF_208_8 : j_F 208 8 = some (.if_icmp .eq 19, 3, 27, 0, .null, .int) := by decide +kernel
theorem jF_208_11 : j_F 208 11 = some (.iload_n 3, 1, 0, 0, .null, .int) := by decide +kernel
theorem jF_208_12 : j_F 208 12 = some (.bipush 60, 2, 0, 0, .null, .int) := by decide +kernel
theorem jF_208_14 : j_F 208 14 = some (.if_icmp .gt 13, 3, 27, 0, .null, .int) := by decide +kernel
theorem jF_208_17 : j_F 208 17 = some (.iload_n 2, 1, 0, 0, .null, .int) := by decide +kernel
theorem jF_208_18 : j_F 208 18 = some (.iload_n 3, 1, 0, 0, .null, .int) := by decide +kernel
theorem jF_208_19 : j_F 208 19 = some (.iadd, 1, 0, 0, .null, .int) := by decide +kernel
theorem jF_208_20 : j_F 208 20 = some (.aload_n 1, 1, 0, 0, .null, .int) := by decide +kernel
theorem jF_208_21 : j_F 208 21 = some (.getfield 57, 3, 6, 1, .null, .int) := by decide +kernel
theorem jF_208_24 : j_F 208 24 = some (.if_icmp .lt 5, 3, 29, 0, .null, .int) := by decide +kernel
theorem jF_208_27 : j_F 208 27 = some (.iconst (-1), 1, 0, 0, .null, .int) := by decide +kernel
theorem jF_208_28 : j_F 208 28 = some (.ireturn, 1, 0, 0, .null, .int) := by decide +kernel
theorem jF_208_29 : j_F 208 29 = some (.aload_n 0, 1, 0, 0, .null, .int) := by decide +kernel
theorem jF_208_30 : j_F 208 30 = some (.invokevirtual 60, 3, 71, 1, .null, .int) := by decide +kernel
theorem jF_208_33 : j_F 208 33 = some (.iconst 0, 1, 0, 0, .null, .int) := by decide +kernel
theorem jF_208_34 : j_F 208 34 = some (.istore 4, 2, 0, 0, .null, .int) := by decide +kernel
theorem jF_208_36 : j_F 208 36 = some (.iload 4, 2, 0, 0, .null, .int) := by decide +kernel
theorem jF_208_38 : j_F 208 38 = some (.iload_n 3, 1, 0, 0, .null, .int) := by decide +kernel
theorem jF_208_39 : j_F 208 39 = some (.if_icmp .ge 23, 3, 62, 0, .null, .int) := by decide +kernel
theorem jF_208_42 : j_F 208 42 = some (.aload_n 0, 1, 0, 0, .null, .int) := by decide +kernel
theorem jF_208_43 : j_F 208 43 = some (.aload_n 1, 1, 0, 0, .null, .int) := by decide +kernel
theorem jF_208_44 : j_F 208 44 = some (.iload_n 2, 1, 0, 0, .null, .int) := by decide +kernel
theorem jF_208_45 : j_F 208 45 = some (.iconst 1, 1, 0, 0, .null, .int) := by decide +kernel
theorem jF_208_46 : j_F 208 46 = some (.iadd, 1, 0, 0, .null, .int) := by decide +kernel
theorem jF_208_47 : j_F 208 47 = some (.iload 4, 2, 0, 0, .null, .int) := by decide +kernel
theorem jF_208_49 : j_F 208 49 = some (.iadd, 1, 0, 0, .null, .int) := by decide +kernel
theorem jF_208_50 : j_F 208 50 = some (.invokevirtual 52, 3, 39, 2, .null, .int) := by decide +kernel
theorem jF_208_53 : j_F 208 53 = some (.invokevirtual 63, 3, 80, 2, .null, .int) := by decide +kernel
theorem jF_208_56 : j_F 208 56 = some (.iinc 4 1, 3, 0, 0, .null, .int) := by decide +kernel
theorem jF_208_59 : j_F 208 59 = some (.goto (-23), 3, 36, 0, .null, .int) := by decide +kernel
theorem jF_208_62 : j_F 208 62 = some (.iload_n 2, 1, 0, 0, .null, .int) := by decide +kernel
theorem jF_208_63 : j_F 208 63 = some (.iconst 1, 1, 0, 0, .null, .int) := by decide +kernel
theorem jF_208_64 : j_F 208 64 = some (.iadd, 1, 0, 0, .null, .int) := by decide +kernel
theorem jF_208_65 : j_F 208 65 = some (.iload_n 3, 1, 0, 0, .null, .int) := by decide +kernel
theorem jF_208_66 : j_F 208 66 = some (.iadd, 1, 0, 0, .null, .int) := by decide +kernel
theorem jF_208_67 : j_F 208 67 = some (.ireturn, 1, 0, 0, .null, .int) := by decide +kernel
theorem jF_209_0 : j_F 209 0 = some (.iconst 0, 1, 0, 0, .null, .int) := by decide +kernel
theorem jF_209_1 : j_F 209 1 = some (.istore_n 2, 1, 0, 0, .null, .int) := by decide +kernel
theorem jF_209_2 : j_F 209 2 = some (.iconst 0, 1, 0, 0, .null, .int) := by decide +kernel
theorem jF_209_3 : j_F 209 3 = some (.istore_n 3, 1, 0, 0, .null, .int) := by decide +kernel
theorem jF_209_4 : j_F 209 4 = some (.iload_n 3, 1, 0, 0, .null, .int) := by decide +kernel
theorem jF_209_5 : j_F 209 5 = some (.aload_n 0, 1, 0, 0, .null, .int) := by decide +kernel
theorem jF_209_6 : j_F 209 6 = some (.getfield 28, 3, 4, 1, .null, .int) := by decide +kernel
theorem jF_209_9 : j_F 209 9 = some (.if_icmp .ge 42, 3, 51, 0, .null, .int) := by decide +kernel
theorem jF_209_12 : j_F 209 12 = some (.iload_n 2, 1, 0, 0, .null, .int) := by decide +kernel
theorem jF_209_13 : j_F 209 13 = some (.iconst (-1), 1, 0, 0, .null, .int) := by decide +kernel
theorem jF_209_14 : j_F 209 14 = some (.if_icmp .eq 37, 3, 51, 0, .null, .int) := by decide +kernel
theorem jF_209_17 : j_F 209 17 = some (.aload_n 1, 1, 0, 0, .null, .int) := by decide +kernel
theorem jF_209_18 : j_F 209 18 = some (.aload_n 0, 1, 0, 0, .null, .int) := by decide +kernel
theorem jF_209_19 : j_F 209 19 = some (.getfield 9, 3, 4, 0, .null, (.array .int)) := by decide +kernel
theorem jF_209_22 : j_F 209 22 = some (.iload_n 3, 1, 0, 0, .null, .int) := by decide +kernel
theorem jF_209_23 : j_F 209 23 = some (.iaload, 1, 0, 0, .null, .int) := by decide +kernel
theorem jF_209_24 : j_F 209 24 = some (.invokevirtual 67, 3, 108, 2, .null, .int) := by decide +kernel
theorem jF_209_27 : j_F 209 27 = some (.ifCond .eq 16, 3, 43, 0, .null, .int) := by decide +kernel
theorem jF_209_30 : j_F 209 30 = some (.iload_n 2, 1, 0, 0, .null, .int) := by decide +kernel
theorem jF_209_31 : j_F 209 31 = some (.aload_n 0, 1, 0, 0, .null, .int) := by decide +kernel
theorem jF_209_32 : j_F 209 32 = some (.getfield 9, 3, 4, 0, .null, (.array .int)) := by decide +kernel
theorem jF_209_35 : j_F 209 35 = some (.iload_n 3, 1, 0, 0, .null, .int) := by decide +kernel
theorem jF_209_36 : j_F 209 36 = some (.iaload, 1, 0, 0, .null, .int) := by decide +kernel
theorem jF_209_37 : j_F 209 37 = some (.invokestatic 73, 3, 78, 2, .null, .int) := by decide +kernel
theorem jF_209_40 : j_F 209 40 = some (.goto 4, 3, 44, 0, .null, .int) := by decide +kernel
theorem jF_209_43 : j_F 209 43 = some (.iconst (-1), 1, 0, 0, .null, .int) := by decide +kernel
theorem jF_209_44 : j_F 209 44 = some (.istore_n 2, 1, 0, 0, .null, .int) := by decide +kernel
theorem jF_209_45 : j_F 209 45 = some (.iinc 3 1, 3, 0, 0, .null, .int) := by decide +kernel
theorem jF_209_48 : j_F 209 48 = some (.goto (-44), 3, 4, 0, .null, .int) := by decide +kernel
theorem jF_209_51 : j_F 209 51 = some (.iload_n 2, 1, 0, 0, .null, .int) := by decide +kernel
theorem jF_209_52 : j_F 209 52 = some (.ifCond .ne 18, 3, 70, 0, .null, .int) := by decide +kernel
theorem jF_209_55 : j_F 209 55 = some (.aload_n 0, 1, 0, 0, .null, .int) := by decide +kernel
theorem jF_209_56 : j_F 209 56 = some (.getfield 32, 3, 4, 2, .null, .int) := by decide +kernel
theorem jF_209_59 : j_F 209 59 = some (.aload_n 1, 1, 0, 0, .null, .int) := by decide +kernel
theorem jF_209_60 : j_F 209 60 = some (.getfield 77, 3, 8, 10, .null, .int) := by decide +kernel
theorem jF_209_63 : j_F 209 63 = some (.if_icmp .gt 7, 3, 70, 0, .null, .int) := by decide +kernel
theorem jF_209_66 : j_F 209 66 = some (.iconst 1, 1, 0, 0, .null, .int) := by decide +kernel
theorem jF_209_67 : j_F 209 67 = some (.goto 4, 3, 71, 0, .null, .int) := by decide +kernel
theorem jF_209_70 : j_F 209 70 = some (.iconst 0, 1, 0, 0, .null, .int) := by decide +kernel
theorem jF_209_71 : j_F 209 71 = some (.ireturn, 1, 0, 0, .null, .boolean) := by decide +kernel
