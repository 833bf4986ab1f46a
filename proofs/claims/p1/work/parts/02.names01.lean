theorem dX3_lay_57 : decode cX3_lay 57 = .ok (.iconst (-1), 1) := by decide +kernel
theorem dX3_lay_58 : decode cX3_lay 58 = .ok (.if_icmp .eq 49, 3) := by decide +kernel
theorem dX3_lay_61 : decode cX3_lay 61 = .ok (.aload_n 1, 1) := by decide +kernel
theorem dX3_lay_62 : decode cX3_lay 62 = .ok (.getfield 44, 3) := by decide +kernel
theorem dX3_lay_65 : decode cX3_lay 65 = .ok (.iload 9, 2) := by decide +kernel
theorem dX3_lay_67 : decode cX3_lay 67 = .ok (.iaload, 1) := by decide +kernel
theorem dX3_lay_68 : decode cX3_lay 68 = .ok (.iload_n 3, 1) := by decide +kernel
theorem dX3_lay_69 : decode cX3_lay 69 = .ok (.if_icmp .ne 22, 3) := by decide +kernel
theorem dX3_lay_72 : decode cX3_lay 72 = .ok (.lload 7, 2) := by decide +kernel
theorem dX3_lay_74 : decode cX3_lay 74 = .ok (.aload_n 2, 1) := by decide +kernel
theorem dX3_lay_75 : decode cX3_lay 75 = .ok (.iload 9, 2) := by decide +kernel
theorem dX3_lay_77 : decode cX3_lay 77 = .ok (.iaload, 1) := by decide +kernel
theorem dX3_lay_78 : decode cX3_lay 78 = .ok (.invokestatic 28, 3) := by decide +kernel
theorem dX3_lay_81 : decode cX3_lay 81 = .ok (.ldc2_w 36, 3) := by decide +kernel
theorem dX3_lay_84 : decode cX3_lay 84 = .ok (.lxor, 1) := by decide +kernel
theorem dX3_lay_85 : decode cX3_lay 85 = .ok (.land, 1) := by decide +kernel
theorem dX3_lay_86 : decode cX3_lay 86 = .ok (.lstore 7, 2) := by decide +kernel
theorem dX3_lay_88 : decode cX3_lay 88 = .ok (.goto 19, 3) := by decide +kernel
theorem dX3_lay_91 : decode cX3_lay 91 = .ok (.aload_n 0, 1) := by decide +kernel
theorem dX3_lay_92 : decode cX3_lay 92 = .ok (.dup, 1) := by decide +kernel
theorem dX3_lay_93 : decode cX3_lay 93 = .ok (.getfield 38, 3) := by decide +kernel
theorem dX3_lay_96 : decode cX3_lay 96 = .ok (.aload_n 2, 1) := by decide +kernel
theorem dX3_lay_97 : decode cX3_lay 97 = .ok (.iload 9, 2) := by decide +kernel
theorem dX3_lay_99 : decode cX3_lay 99 = .ok (.iaload, 1) := by decide +kernel
theorem dX3_lay_100 : decode cX3_lay 100 = .ok (.invokestatic 28, 3) := by decide +kernel
theorem dX3_lay_103 : decode cX3_lay 103 = .ok (.lor, 1) := by decide +kernel
theorem dX3_lay_104 : decode cX3_lay 104 = .ok (.putfield 38, 3) := by decide +kernel
theorem dX3_lay_107 : decode cX3_lay 107 = .ok (.iinc 9 1, 3) := by decide +kernel
theorem dX3_lay_110 : decode cX3_lay 110 = .ok (.goto (-73), 3) := by decide +kernel
theorem dX3_lay_113 : decode cX3_lay 113 = .ok (.aload_n 0, 1) := by decide +kernel
theorem dX3_lay_114 : decode cX3_lay 114 = .ok (.aload_n 0, 1) := by decide +kernel
theorem dX3_lay_115 : decode cX3_lay 115 = .ok (.getfield 38, 3) := by decide +kernel
theorem dX3_lay_118 : decode cX3_lay 118 = .ok (.aload_n 1, 1) := by decide +kernel
theorem dX3_lay_119 : decode cX3_lay 119 = .ok (.getfield 47, 3) := by decide +kernel
theorem dX3_lay_122 : decode cX3_lay 122 = .ok (.lor, 1) := by decide +kernel
theorem dX3_lay_123 : decode cX3_lay 123 = .ok (.putfield 50, 3) := by decide +kernel
theorem dX3_lay_126 : decode cX3_lay 126 = .ok (.aload_n 0, 1) := by decide +kernel
theorem dX3_lay_127 : decode cX3_lay 127 = .ok (.getfield 15, 3) := by decide +kernel
theorem dX3_lay_130 : decode cX3_lay 130 = .ok (.iconst 0, 1) := by decide +kernel
theorem dX3_lay_131 : decode cX3_lay 131 = .ok (.aload_n 1, 1) := by decide +kernel
theorem dX3_lay_132 : decode cX3_lay 132 = .ok (.getfield 19, 3) := by decide +kernel
theorem dX3_lay_135 : decode cX3_lay 135 = .ok (.ineg, 1) := by decide +kernel
theorem dX3_lay_136 : decode cX3_lay 136 = .ok (.iastore, 1) := by decide +kernel
theorem dX3_lay_137 : decode cX3_lay 137 = .ok (.aload_n 0, 1) := by decide +kernel
theorem dX3_lay_138 : decode cX3_lay 138 = .ok (.getfield 15, 3) := by decide +kernel
theorem dX3_lay_141 : decode cX3_lay 141 = .ok (.iconst 1, 1) := by decide +kernel
theorem dX3_lay_142 : decode cX3_lay 142 = .ok (.iconst 1, 1) := by decide +kernel
theorem dX3_lay_143 : decode cX3_lay 143 = .ok (.iastore, 1) := by decide +kernel
theorem dX3_lay_144 : decode cX3_lay 144 = .ok (.aload_n 0, 1) := by decide +kernel
theorem dX3_lay_145 : decode cX3_lay 145 = .ok (.getfield 15, 3) := by decide +kernel
theorem dX3_lay_148 : decode cX3_lay 148 = .ok (.iconst 2, 1) := by decide +kernel
theorem dX3_lay_149 : decode cX3_lay 149 = .ok (.aload_n 1, 1) := by decide +kernel
theorem dX3_lay_150 : decode cX3_lay 150 = .ok (.getfield 19, 3) := by decide +kernel
theorem dX3_lay_153 : decode cX3_lay 153 = .ok (.iastore, 1) := by decide +kernel
theorem dX3_lay_154 : decode cX3_lay 154 = .ok (.aload_n 0, 1) := by decide +kernel
theorem dX3_lay_155 : decode cX3_lay 155 = .ok (.getfield 15, 3) := by decide +kernel
theorem dX3_lay_158 : decode cX3_lay 158 = .ok (.iconst 3, 1) := by decide +kernel
theorem dX3_lay_159 : decode cX3_lay 159 = .ok (.iconst (-1), 1) := by decide +kernel
theorem dX3_lay_160 : decode cX3_lay 160 = .ok (.iastore, 1) := by decide +kernel
theorem dX3_lay_161 : decode cX3_lay 161 = .ok (.aload_n 0, 1) := by decide +kernel
theorem dX3_lay_162 : decode cX3_lay 162 = .ok (.aload_n 1, 1) := by decide +kernel
theorem dX3_lay_163 : decode cX3_lay 163 = .ok (.lload 5, 2) := by decide +kernel
theorem dX3_lay_165 : decode cX3_lay 165 = .ok (.lload 7, 2) := by decide +kernel
theorem dX3_lay_167 : decode cX3_lay 167 = .ok (.invokevirtual 53, 3) := by decide +kernel
theorem dX3_lay_170 : decode cX3_lay 170 = .ok (.return_, 1) := by decide +kernel
theorem dX3_layNeighbours_0 : decode cX3_layNeighbours 0 = .ok (.lconst 0, 1) := by decide +kernel
theorem dX3_layNeighbours_1 : decode cX3_layNeighbours 1 = .ok (.lstore 6, 2) := by decide +kernel
theorem dX3_layNeighbours_3 : decode cX3_layNeighbours 3 = .ok (.iconst 0, 1) := by decide +kernel
theorem dX3_layNeighbours_4 : decode cX3_layNeighbours 4 = .ok (.istore 8, 2) := by decide +kernel
theorem dX3_layNeighbours_6 : decode cX3_layNeighbours 6 = .ok (.iload 8, 2) := by decide +kernel
theorem dX3_layNeighbours_8 : decode cX3_layNeighbours 8 = .ok (.aload_n 1, 1) := by decide +kernel
theorem dX3_layNeighbours_9 : decode cX3_layNeighbours 9 = .ok (.getfield 25, 3) := by decide +kernel
theorem dX3_layNeighbours_12 : decode cX3_layNeighbours 12 = .ok (.if_icmp .ge 24, 3) := by decide +kernel
theorem dX3_layNeighbours_15 : decode cX3_layNeighbours 15 = .ok (.lload 6, 2) := by decide +kernel
theorem dX3_layNeighbours_17 : decode cX3_layNeighbours 17 = .ok (.iload 8, 2) := by decide +kernel
theorem dX3_layNeighbours_19 : decode cX3_layNeighbours 19 = .ok (.aload_n 1, 1) := by decide +kernel
theorem dX3_layNeighbours_20 : decode cX3_layNeighbours 20 = .ok (.getfield 19, 3) := by decide +kernel
theorem dX3_layNeighbours_23 : decode cX3_layNeighbours 23 = .ok (.imul, 1) := by decide +kernel
theorem dX3_layNeighbours_24 : decode cX3_layNeighbours 24 = .ok (.invokestatic 28, 3) := by decide +kernel
theorem dX3_layNeighbours_27 : decode cX3_layNeighbours 27 = .ok (.lor, 1) := by decide +kernel
theorem dX3_layNeighbours_28 : decode cX3_layNeighbours 28 = .ok (.lstore 6, 2) := by decide +kernel
theorem dX3_layNeighbours_30 : decode cX3_layNeighbours 30 = .ok (.iinc 8 1, 3) := by decide +kernel
theorem dX3_layNeighbours_33 : decode cX3_layNeighbours 33 = .ok (.goto (-27), 3) := by decide +kernel
theorem dX3_layNeighbours_36 : decode cX3_layNeighbours 36 = .ok (.lload 6, 2) := by decide +kernel
theorem dX3_layNeighbours_38 : decode cX3_layNeighbours 38 = .ok (.aload_n 1, 1) := by decide +kernel
theorem dX3_layNeighbours_39 : decode cX3_layNeighbours 39 = .ok (.getfield 19, 3) := by decide +kernel
theorem dX3_layNeighbours_42 : decode cX3_layNeighbours 42 = .ok (.iconst 1, 1) := by decide +kernel
theorem dX3_layNeighbours_43 : decode cX3_layNeighbours 43 = .ok (.isub, 1) := by decide +kernel
theorem dX3_layNeighbours_44 : decode cX3_layNeighbours 44 = .ok (.lshl, 1) := by decide +kernel
theorem dX3_layNeighbours_45 : decode cX3_layNeighbours 45 = .ok (.lstore 8, 2) := by decide +kernel
theorem dX3_layNeighbours_47 : decode cX3_layNeighbours 47 = .ok (.aload_n 0, 1) := by decide +kernel
theorem dX3_layNeighbours_48 : decode cX3_layNeighbours 48 = .ok (.getfield 9, 3) := by decide +kernel
theorem dX3_layNeighbours_51 : decode cX3_layNeighbours 51 = .ok (.iconst 0, 1) := by decide +kernel
theorem dX3_layNeighbours_52 : decode cX3_layNeighbours 52 = .ok (.lload 4, 2) := by decide +kernel
theorem dX3_layNeighbours_54 : decode cX3_layNeighbours 54 = .ok (.aload_n 1, 1) := by decide +kernel
theorem dX3_layNeighbours_55 : decode cX3_layNeighbours 55 = .ok (.getfield 19, 3) := by decide +kernel
theorem dX3_layNeighbours_58 : decode cX3_layNeighbours 58 = .ok (.lshl, 1) := by decide +kernel
theorem dX3_layNeighbours_59 : decode cX3_layNeighbours 59 = .ok (.lload_n 2, 1) := by decide +kernel
theorem dX3_layNeighbours_60 : decode cX3_layNeighbours 60 = .ok (.land, 1) := by decide +kernel
theorem dX3_layNeighbours_61 : decode cX3_layNeighbours 61 = .ok (.lastore, 1) := by decide +kernel
theorem dX3_layNeighbours_62 : decode cX3_layNeighbours 62 = .ok (.aload_n 0, 1) := by decide +kernel
theorem dX3_layNeighbours_63 : decode cX3_layNeighbours 63 = .ok (.getfield 9, 3) := by decide +kernel
theorem dX3_layNeighbours_66 : decode cX3_layNeighbours 66 = .ok (.iconst 1, 1) := by decide +kernel
theorem dX3_layNeighbours_67 : decode cX3_layNeighbours 67 = .ok (.lload 4, 2) := by decide +kernel
theorem dX3_layNeighbours_69 : decode cX3_layNeighbours 69 = .ok (.lload 6, 2) := by decide +kernel
theorem dX3_layNeighbours_71 : decode cX3_layNeighbours 71 = .ok (.ldc2_w 36, 3) := by decide +kernel
theorem dX3_layNeighbours_74 : decode cX3_layNeighbours 74 = .ok (.lxor, 1) := by decide +kernel
theorem dX3_layNeighbours_75 : decode cX3_layNeighbours 75 = .ok (.land, 1) := by decide +kernel
theorem dX3_layNeighbours_76 : decode cX3_layNeighbours 76 = .ok (.iconst 1, 1) := by decide +kernel
theorem dX3_layNeighbours_77 : decode cX3_layNeighbours 77 = .ok (.lushr, 1) := by decide +kernel
theorem dX3_layNeighbours_78 : decode cX3_layNeighbours 78 = .ok (.lastore, 1) := by decide +kernel
theorem dX3_layNeighbours_79 : decode cX3_layNeighbours 79 = .ok (.aload_n 0, 1) := by decide +kernel
theorem dX3_layNeighbours_80 : decode cX3_layNeighbours 80 = .ok (.getfield 9, 3) := by decide +kernel
theorem dX3_layNeighbours_83 : decode cX3_layNeighbours 83 = .ok (.iconst 2, 1) := by decide +kernel
theorem dX3_layNeighbours_84 : decode cX3_layNeighbours 84 = .ok (.lload 4, 2) := by decide +kernel
theorem dX3_layNeighbours_86 : decode cX3_layNeighbours 86 = .ok (.aload_n 1, 1) := by decide +kernel
theorem dX3_layNeighbours_87 : decode cX3_layNeighbours 87 = .ok (.getfield 19, 3) := by decide +kernel
theorem dX3_layNeighbours_90 : decode cX3_layNeighbours 90 = .ok (.lushr, 1) := by decide +kernel
theorem dX3_layNeighbours_91 : decode cX3_layNeighbours 91 = .ok (.lastore, 1) := by decide +kernel
theorem dX3_layNeighbours_92 : decode cX3_layNeighbours 92 = .ok (.aload_n 0, 1) := by decide +kernel
theorem dX3_layNeighbours_93 : decode cX3_layNeighbours 93 = .ok (.getfield 9, 3) := by decide +kernel
theorem dX3_layNeighbours_96 : decode cX3_layNeighbours 96 = .ok (.iconst 3, 1) := by decide +kernel
theorem dX3_layNeighbours_97 : decode cX3_layNeighbours 97 = .ok (.lload 4, 2) := by decide +kernel
theorem dX3_layNeighbours_99 : decode cX3_layNeighbours 99 = .ok (.lload 8, 2) := by decide +kernel
theorem dX3_layNeighbours_101 : decode cX3_layNeighbours 101 = .ok (.ldc2_w 36, 3) := by decide +kernel
theorem dX3_layNeighbours_104 : decode cX3_layNeighbours 104 = .ok (.lxor, 1) := by decide +kernel
theorem dX3_layNeighbours_105 : decode cX3_layNeighbours 105 = .ok (.land, 1) := by decide +kernel
theorem dX3_layNeighbours_106 : decode cX3_layNeighbours 106 = .ok (.iconst 1, 1) := by decide +kernel
theorem dX3_layNeighbours_107 : decode cX3_layNeighbours 107 = .ok (.lshl, 1) := by decide +kernel
theorem dX3_layNeighbours_108 : decode cX3_layNeighbours 108 = .ok (.lastore, 1) := by decide +kernel
theorem dX3_layNeighbours_109 : decode cX3_layNeighbours 109 = .ok (.aload_n 0, 1) := by decide +kernel
theorem dX3_layNeighbours_110 : decode cX3_layNeighbours 110 = .ok (.aload_n 0, 1) := by decide +kernel
theorem dX3_layNeighbours_111 : decode cX3_layNeighbours 111 = .ok (.getfield 38, 3) := by decide +kernel
theorem dX3_layNeighbours_114 : decode cX3_layNeighbours 114 = .ok (.aload_n 1, 1) := by decide +kernel
theorem dX3_layNeighbours_115 : decode cX3_layNeighbours 115 = .ok (.getfield 19, 3) := by decide +kernel
theorem dX3_layNeighbours_118 : decode cX3_layNeighbours 118 = .ok (.lshl, 1) := by decide +kernel
theorem dX3_layNeighbours_119 : decode cX3_layNeighbours 119 = .ok (.lload_n 2, 1) := by decide +kernel
theorem dX3_layNeighbours_120 : decode cX3_layNeighbours 120 = .ok (.land, 1) := by decide +kernel
theorem dX3_layNeighbours_121 : decode cX3_layNeighbours 121 = .ok (.aload_n 0, 1) := by decide +kernel
theorem dX3_layNeighbours_122 : decode cX3_layNeighbours 122 = .ok (.getfield 38, 3) := by decide +kernel
theorem dX3_layNeighbours_125 : decode cX3_layNeighbours 125 = .ok (.lload 6, 2) := by decide +kernel
theorem dX3_layNeighbours_127 : decode cX3_layNeighbours 127 = .ok (.ldc2_w 36, 3) := by decide +kernel
theorem dX3_layNeighbours_130 : decode cX3_layNeighbours 130 = .ok (.lxor, 1) := by decide +kernel
theorem dX3_layNeighbours_131 : decode cX3_layNeighbours 131 = .ok (.land, 1) := by decide +kernel
theorem dX3_layNeighbours_132 : decode cX3_layNeighbours 132 = .ok (.iconst 1, 1) := by decide +kernel
theorem dX3_layNeighbours_133 : decode cX3_layNeighbours 133 = .ok (.lushr, 1) := by decide +kernel
theorem dX3_layNeighbours_134 : decode cX3_layNeighbours 134 = .ok (.lor, 1) := by decide +kernel
theorem dX3_layNeighbours_135 : decode cX3_layNeighbours 135 = .ok (.aload_n 0, 1) := by decide +kernel
theorem dX3_layNeighbours_136 : decode cX3_layNeighbours 136 = .ok (.getfield 38, 3) := by decide +kernel
theorem dX3_layNeighbours_139 : decode cX3_layNeighbours 139 = .ok (.aload_n 1, 1) := by decide +kernel
theorem dX3_layNeighbours_140 : decode cX3_layNeighbours 140 = .ok (.getfield 19, 3) := by decide +kernel
theorem dX3_layNeighbours_143 : decode cX3_layNeighbours 143 = .ok (.lushr, 1) := by decide +kernel
theorem dX3_layNeighbours_144 : decode cX3_layNeighbours 144 = .ok (.lor, 1) := by decide +kernel
theorem dX3_layNeighbours_145 : decode cX3_layNeighbours 145 = .ok (.aload_n 0, 1) := by decide +kernel
theorem dX3_layNeighbours_146 : decode cX3_layNeighbours 146 = .ok (.getfield 38, 3) := by decide +kernel
theorem dX3_layNeighbours_149 : decode cX3_layNeighbours 149 = .ok (.lload 8, 2) := by decide +kernel
theorem dX3_layNeighbours_151 : decode cX3_layNeighbours 151 = .ok (.ldc2_w 36, 3) := by decide +kernel
theorem dX3_layNeighbours_154 : decode cX3_layNeighbours 154 = .ok (.lxor, 1) := by decide +kernel
theorem dX3_layNeighbours_155 : decode cX3_layNeighbours 155 = .ok (.land, 1) := by decide +kernel
theorem dX3_layNeighbours_156 : decode cX3_layNeighbours 156 = .ok (.iconst 1, 1) := by decide +kernel
theorem dX3_layNeighbours_157 : decode cX3_layNeighbours 157 = .ok (.lshl, 1) := by decide +kernel
theorem dX3_layNeighbours_158 : decode cX3_layNeighbours 158 = .ok (.lor, 1) := by decide +kernel
theorem dX3_layNeighbours_159 : decode cX3_layNeighbours 159 = .ok (.putfield 57, 3) := by decide +kernel
theorem dX3_layNeighbours_162 : decode cX3_layNeighbours 162 = .ok (.return_, 1) := by decide +kernel
theorem dX3_moved_0 : decode cX3_moved 0 = .ok (.lload_n 1, 1) := by decide +kernel
theorem dX3_moved_1 : decode cX3_moved 1 = .ok (.aload_n 0, 1) := by decide +kernel
theorem dX3_moved_2 : decode cX3_moved 2 = .ok (.getfield 9, 3) := by decide +kernel
theorem dX3_moved_5 : decode cX3_moved 5 = .ok (.iload_n 3, 1) := by decide +kernel
theorem dX3_moved_6 : decode cX3_moved 6 = .ok (.laload, 1) := by decide +kernel
theorem dX3_moved_7 : decode cX3_moved 7 = .ok (.land, 1) := by decide +kernel
theorem dX3_moved_8 : decode cX3_moved 8 = .ok (.lstore 4, 2) := by decide +kernel
theorem dX3_moved_10 : decode cX3_moved 10 = .ok (.aload_n 0, 1) := by decide +kernel
theorem dX3_moved_11 : decode cX3_moved 11 = .ok (.getfield 15, 3) := by decide +kernel
theorem dX3_moved_14 : decode cX3_moved 14 = .ok (.iload_n 3, 1) := by decide +kernel
theorem dX3_moved_15 : decode cX3_moved 15 = .ok (.iaload, 1) := by decide +kernel
theorem dX3_moved_16 : decode cX3_moved 16 = .ok (.ifCond .ge 16, 3) := by decide +kernel
theorem dX3_moved_19 : decode cX3_moved 19 = .ok (.lload 4, 2) := by decide +kernel
theorem dX3_moved_21 : decode cX3_moved 21 = .ok (.aload_n 0, 1) := by decide +kernel
theorem dX3_moved_22 : decode cX3_moved 22 = .ok (.getfield 15, 3) := by decide +kernel
theorem dX3_moved_25 : decode cX3_moved 25 = .ok (.iload_n 3, 1) := by decide +kernel
theorem dX3_moved_26 : decode cX3_moved 26 = .ok (.iaload, 1) := by decide +kernel
theorem dX3_moved_27 : decode cX3_moved 27 = .ok (.ineg, 1) := by decide +kernel
theorem dX3_moved_28 : decode cX3_moved 28 = .ok (.lushr, 1) := by decide +kernel
theorem dX3_moved_29 : decode cX3_moved 29 = .ok (.goto 12, 3) := by decide +kernel
theorem dX3_moved_32 : decode cX3_moved 32 = .ok (.lload 4, 2) := by decide +kernel
theorem dX3_moved_34 : decode cX3_moved 34 = .ok (.aload_n 0, 1) := by decide +kernel
theorem dX3_moved_35 : decode cX3_moved 35 = .ok (.getfield 15, 3) := by decide +kernel
theorem dX3_moved_38 : decode cX3_moved 38 = .ok (.iload_n 3, 1) := by decide +kernel
theorem dX3_moved_39 : decode cX3_moved 39 = .ok (.iaload, 1) := by decide +kernel
theorem dX3_moved_40 : decode cX3_moved 40 = .ok (.lshl, 1) := by decide +kernel
theorem dX3_moved_41 : decode cX3_moved 41 = .ok (.lreturn, 1) := by decide +kernel
theorem dX3_stepTo_0 : decode cX3_stepTo 0 = .ok (.aload_n 0, 1) := by decide +kernel
theorem dX3_stepTo_1 : decode cX3_stepTo 1 = .ok (.getfield 9, 3) := by decide +kernel
theorem dX3_stepTo_4 : decode cX3_stepTo 4 = .ok (.iload_n 2, 1) := by decide +kernel
theorem dX3_stepTo_5 : decode cX3_stepTo 5 = .ok (.laload, 1) := by decide +kernel
theorem dX3_stepTo_6 : decode cX3_stepTo 6 = .ok (.iload_n 1, 1) := by decide +kernel
theorem dX3_stepTo_7 : decode cX3_stepTo 7 = .ok (.invokestatic 60, 3) := by decide +kernel
theorem dX3_stepTo_10 : decode cX3_stepTo 10 = .ok (.ifCond .eq 14, 3) := by decide +kernel
theorem dX3_stepTo_13 : decode cX3_stepTo 13 = .ok (.iload_n 1, 1) := by decide +kernel
theorem dX3_stepTo_14 : decode cX3_stepTo 14 = .ok (.aload_n 0, 1) := by decide +kernel
theorem dX3_stepTo_15 : decode cX3_stepTo 15 = .ok (.getfield 15, 3) := by decide +kernel
theorem dX3_stepTo_18 : decode cX3_stepTo 18 = .ok (.iload_n 2, 1) := by decide +kernel
theorem dX3_stepTo_19 : decode cX3_stepTo 19 = .ok (.iaload, 1) := by decide +kernel
theorem dX3_stepTo_20 : decode cX3_stepTo 20 = .ok (.iadd, 1) := by decide +kernel
theorem dX3_stepTo_21 : decode cX3_stepTo 21 = .ok (.goto 4, 3) := by decide +kernel
theorem dX3_stepTo_24 : decode cX3_stepTo 24 = .ok (.iconst (-1), 1) := by decide +kernel
theorem dX3_stepTo_25 : decode cX3_stepTo 25 = .ok (.ireturn, 1) := by decide +kernel
theorem dX4_init_0 : decode cX4_init 0 = .ok (.aload_n 0, 1) := by decide +kernel
theorem dX4_init_1 : decode cX4_init 1 = .ok (.invokespecial 3, 3) := by decide +kernel
theorem dX4_init_4 : decode cX4_init 4 = .ok (.aload_n 0, 1) := by decide +kernel
theorem dX4_init_5 : decode cX4_init 5 = .ok (.new 9, 3) := by decide +kernel
theorem dX4_init_8 : decode cX4_init 8 = .ok (.dup, 1) := by decide +kernel
theorem dX4_init_9 : decode cX4_init 9 = .ok (.invokespecial 11, 3) := by decide +kernel
theorem dX4_init_12 : decode cX4_init 12 = .ok (.putfield 12, 3) := by decide +kernel
theorem dX4_init_15 : decode cX4_init 15 = .ok (.aload_n 0, 1) := by decide +kernel
theorem dX4_init_16 : decode cX4_init 16 = .ok (.iconst 5, 1) := by decide +kernel
theorem dX4_init_17 : decode cX4_init 17 = .ok (.anewarray 18, 3) := by decide +kernel
theorem dX4_init_20 : decode cX4_init 20 = .ok (.putfield 20, 3) := by decide +kernel
theorem dX4_init_23 : decode cX4_init 23 = .ok (.aload_n 0, 1) := by decide +kernel
theorem dX4_init_24 : decode cX4_init 24 = .ok (.iconst 4, 1) := by decide +kernel
theorem dX4_init_25 : decode cX4_init 25 = .ok (.newarray .int, 2) := by decide +kernel
theorem dX4_init_27 : decode cX4_init 27 = .ok (.putfield 24, 3) := by decide +kernel
theorem dX4_init_30 : decode cX4_init 30 = .ok (.aload_n 0, 1) := by decide +kernel
theorem dX4_init_31 : decode cX4_init 31 = .ok (.sipush 16384, 3) := by decide +kernel
theorem dX4_init_34 : decode cX4_init 34 = .ok (.newarray .long, 2) := by decide +kernel
theorem dX4_init_36 : decode cX4_init 36 = .ok (.putfield 28, 3) := by decide +kernel
theorem dX4_init_39 : decode cX4_init 39 = .ok (.iconst 0, 1) := by decide +kernel
theorem dX4_init_40 : decode cX4_init 40 = .ok (.istore_n 1, 1) := by decide +kernel
theorem dX4_init_41 : decode cX4_init 41 = .ok (.iload_n 1, 1) := by decide +kernel
theorem dX4_init_42 : decode cX4_init 42 = .ok (.iconst 4, 1) := by decide +kernel
theorem dX4_init_43 : decode cX4_init 43 = .ok (.if_icmp .gt 23, 3) := by decide +kernel
theorem dX4_init_46 : decode cX4_init 46 = .ok (.aload_n 0, 1) := by decide +kernel
theorem dX4_init_47 : decode cX4_init 47 = .ok (.getfield 20, 3) := by decide +kernel
theorem dX4_init_50 : decode cX4_init 50 = .ok (.iload_n 1, 1) := by decide +kernel
theorem dX4_init_51 : decode cX4_init 51 = .ok (.new 18, 3) := by decide +kernel
theorem dX4_init_54 : decode cX4_init 54 = .ok (.dup, 1) := by decide +kernel
theorem dX4_init_55 : decode cX4_init 55 = .ok (.aconst_null, 1) := by decide +kernel
theorem dX4_init_56 : decode cX4_init 56 = .ok (.invokespecial 32, 3) := by decide +kernel
theorem dX4_init_59 : decode cX4_init 59 = .ok (.aastore, 1) := by decide +kernel
theorem dX4_init_60 : decode cX4_init 60 = .ok (.iinc 1 1, 3) := by decide +kernel
theorem dX4_init_63 : decode cX4_init 63 = .ok (.goto (-22), 3) := by decide +kernel
theorem dX4_init_66 : decode cX4_init 66 = .ok (.return_, 1) := by decide +kernel
theorem dX4_begin_0 : decode cX4_begin 0 = .ok (.aload_n 0, 1) := by decide +kernel
theorem dX4_begin_1 : decode cX4_begin 1 = .ok (.getfield 12, 3) := by decide +kernel
theorem dX4_begin_4 : decode cX4_begin 4 = .ok (.aload_n 1, 1) := by decide +kernel
theorem dX4_begin_5 : decode cX4_begin 5 = .ok (.aload_n 2, 1) := by decide +kernel
theorem dX4_begin_6 : decode cX4_begin 6 = .ok (.aload_n 1, 1) := by decide +kernel
theorem dX4_begin_7 : decode cX4_begin 7 = .ok (.getfield 35, 3) := by decide +kernel
theorem dX4_begin_10 : decode cX4_begin 10 = .ok (.iload_n 3, 1) := by decide +kernel
theorem dX4_begin_11 : decode cX4_begin 11 = .ok (.iaload, 1) := by decide +kernel
theorem dX4_begin_12 : decode cX4_begin 12 = .ok (.iload_n 3, 1) := by decide +kernel
theorem dX4_begin_13 : decode cX4_begin 13 = .ok (.invokevirtual 40, 3) := by decide +kernel
theorem dX4_begin_16 : decode cX4_begin 16 = .ok (.aload_n 0, 1) := by decide +kernel
theorem dX4_begin_17 : decode cX4_begin 17 = .ok (.getfield 20, 3) := by decide +kernel
theorem dX4_begin_20 : decode cX4_begin 20 = .ok (.iconst 0, 1) := by decide +kernel
theorem dX4_begin_21 : decode cX4_begin 21 = .ok (.aaload, 1) := by decide +kernel
theorem dX4_begin_22 : decode cX4_begin 22 = .ok (.iconst 4, 1) := by decide +kernel
theorem dX4_begin_23 : decode cX4_begin 23 = .ok (.aload_n 2, 1) := by decide +kernel
theorem dX4_begin_24 : decode cX4_begin 24 = .ok (.iload_n 3, 1) := by decide +kernel
theorem dX4_begin_25 : decode cX4_begin 25 = .ok (.iaload, 1) := by decide +kernel
theorem dX4_begin_26 : decode cX4_begin 26 = .ok (.invokevirtual 44, 3) := by decide +kernel
theorem dX4_begin_29 : decode cX4_begin 29 = .ok (.aload_n 0, 1) := by decide +kernel
theorem dX4_begin_30 : decode cX4_begin 30 = .ok (.iconst 0, 1) := by decide +kernel
theorem dX4_begin_31 : decode cX4_begin 31 = .ok (.putfield 48, 3) := by decide +kernel
theorem dX4_begin_34 : decode cX4_begin 34 = .ok (.aload_n 0, 1) := by decide +kernel
theorem dX4_begin_35 : decode cX4_begin 35 = .ok (.iload 4, 2) := by decide +kernel
theorem dX4_begin_37 : decode cX4_begin 37 = .ok (.iconst 4, 1) := by decide +kernel
theorem dX4_begin_38 : decode cX4_begin 38 = .ok (.invokestatic 52, 3) := by decide +kernel
theorem dX4_begin_41 : decode cX4_begin 41 = .ok (.putfield 58, 3) := by decide +kernel
theorem dX4_begin_44 : decode cX4_begin 44 = .ok (.return_, 1) := by decide +kernel
theorem dX4_next_0 : decode cX4_next 0 = .ok (.aload_n 0, 1) := by decide +kernel
theorem dX4_next_1 : decode cX4_next 1 = .ok (.getfield 48, 3) := by decide +kernel
theorem dX4_next_4 : decode cX4_next 4 = .ok (.iconst 1, 1) := by decide +kernel
theorem dX4_next_5 : decode cX4_next 5 = .ok (.isub, 1) := by decide +kernel
theorem dX4_next_6 : decode cX4_next 6 = .ok (.istore_n 1, 1) := by decide +kernel
theorem dX4_next_7 : decode cX4_next 7 = .ok (.iload_n 1, 1) := by decide +kernel
theorem dX4_next_8 : decode cX4_next 8 = .ok (.ifCond .lt 27, 3) := by decide +kernel
theorem dX4_next_11 : decode cX4_next 11 = .ok (.aload_n 0, 1) := by decide +kernel
theorem dX4_next_12 : decode cX4_next 12 = .ok (.getfield 24, 3) := by decide +kernel
theorem dX4_next_15 : decode cX4_next 15 = .ok (.iload_n 1, 1) := by decide +kernel
theorem dX4_next_16 : decode cX4_next 16 = .ok (.iaload, 1) := by decide +kernel
theorem dX4_next_17 : decode cX4_next 17 = .ok (.bipush 9, 2) := by decide +kernel
theorem dX4_next_19 : decode cX4_next 19 = .ok (.if_icmp .ne 16, 3) := by decide +kernel
theorem dX4_next_22 : decode cX4_next 22 = .ok (.aload_n 0, 1) := by decide +kernel
theorem dX4_next_23 : decode cX4_next 23 = .ok (.getfield 24, 3) := by decide +kernel
theorem dX4_next_26 : decode cX4_next 26 = .ok (.iload_n 1, 1) := by decide +kernel
theorem dX4_next_27 : decode cX4_next 27 = .ok (.iconst 0, 1) := by decide +kernel
theorem dX4_next_28 : decode cX4_next 28 = .ok (.iastore, 1) := by decide +kernel
theorem dX4_next_29 : decode cX4_next 29 = .ok (.iinc 1 (-1), 3) := by decide +kernel
theorem dX4_next_32 : decode cX4_next 32 = .ok (.goto (-25), 3) := by decide +kernel
theorem dX4_next_35 : decode cX4_next 35 = .ok (.iload_n 1, 1) := by decide +kernel
theorem dX4_next_36 : decode cX4_next 36 = .ok (.ifCond .lt 16, 3) := by decide +kernel
theorem dX4_next_39 : decode cX4_next 39 = .ok (.aload_n 0, 1) := by decide +kernel
theorem dX4_next_40 : decode cX4_next 40 = .ok (.getfield 24, 3) := by decide +kernel
theorem dX4_next_43 : decode cX4_next 43 = .ok (.iload_n 1, 1) := by decide +kernel
theorem dX4_next_44 : decode cX4_next 44 = .ok (.dup2, 1) := by decide +kernel
theorem dX4_next_45 : decode cX4_next 45 = .ok (.iaload, 1) := by decide +kernel
theorem dX4_next_46 : decode cX4_next 46 = .ok (.iconst 1, 1) := by decide +kernel
theorem dX4_next_47 : decode cX4_next 47 = .ok (.iadd, 1) := by decide +kernel
theorem dX4_next_48 : decode cX4_next 48 = .ok (.iastore, 1) := by decide +kernel
theorem dX4_next_49 : decode cX4_next 49 = .ok (.goto 38, 3) := by decide +kernel
theorem dX4_next_52 : decode cX4_next 52 = .ok (.aload_n 0, 1) := by decide +kernel
theorem dX4_next_53 : decode cX4_next 53 = .ok (.getfield 48, 3) := by decide +kernel
theorem dX4_next_56 : decode cX4_next 56 = .ok (.aload_n 0, 1) := by decide +kernel
theorem dX4_next_57 : decode cX4_next 57 = .ok (.getfield 58, 3) := by decide +kernel
theorem dX4_next_60 : decode cX4_next 60 = .ok (.if_icmp .lt 5, 3) := by decide +kernel
theorem dX4_next_63 : decode cX4_next 63 = .ok (.iconst 0, 1) := by decide +kernel
theorem dX4_next_64 : decode cX4_next 64 = .ok (.ireturn, 1) := by decide +kernel
theorem dX4_next_65 : decode cX4_next 65 = .ok (.aload_n 0, 1) := by decide +kernel
theorem dX4_next_66 : decode cX4_next 66 = .ok (.getfield 24, 3) := by decide +kernel
theorem dX4_next_69 : decode cX4_next 69 = .ok (.aload_n 0, 1) := by decide +kernel
theorem dX4_next_70 : decode cX4_next 70 = .ok (.getfield 48, 3) := by decide +kernel
theorem dX4_next_73 : decode cX4_next 73 = .ok (.iconst 0, 1) := by decide +kernel
theorem dX4_next_74 : decode cX4_next 74 = .ok (.iastore, 1) := by decide +kernel
theorem dX4_next_75 : decode cX4_next 75 = .ok (.aload_n 0, 1) := by decide +kernel
theorem dX4_next_76 : decode cX4_next 76 = .ok (.dup, 1) := by decide +kernel
theorem dX4_next_77 : decode cX4_next 77 = .ok (.getfield 48, 3) := by decide +kernel
theorem dX4_next_80 : decode cX4_next 80 = .ok (.iconst 1, 1) := by decide +kernel
theorem dX4_next_81 : decode cX4_next 81 = .ok (.iadd, 1) := by decide +kernel
theorem dX4_next_82 : decode cX4_next 82 = .ok (.putfield 48, 3) := by decide +kernel
theorem dX4_next_85 : decode cX4_next 85 = .ok (.iconst 0, 1) := by decide +kernel
theorem dX4_next_86 : decode cX4_next 86 = .ok (.istore_n 1, 1) := by decide +kernel
theorem dX4_next_87 : decode cX4_next 87 = .ok (.iload_n 1, 1) := by decide +kernel
theorem dX4_next_88 : decode cX4_next 88 = .ok (.istore_n 2, 1) := by decide +kernel
theorem dX4_next_89 : decode cX4_next 89 = .ok (.iload_n 2, 1) := by decide +kernel
theorem dX4_next_90 : decode cX4_next 90 = .ok (.aload_n 0, 1) := by decide +kernel
theorem dX4_next_91 : decode cX4_next 91 = .ok (.getfield 48, 3) := by decide +kernel
theorem dX4_next_94 : decode cX4_next 94 = .ok (.if_icmp .ge 47, 3) := by decide +kernel
theorem dX4_next_97 : decode cX4_next 97 = .ok (.aload_n 0, 1) := by decide +kernel
theorem dX4_next_98 : decode cX4_next 98 = .ok (.getfield 20, 3) := by decide +kernel
theorem dX4_next_101 : decode cX4_next 101 = .ok (.iload_n 2, 1) := by decide +kernel
theorem dX4_next_102 : decode cX4_next 102 = .ok (.iconst 1, 1) := by decide +kernel
theorem dX4_next_103 : decode cX4_next 103 = .ok (.iadd, 1) := by decide +kernel
theorem dX4_next_104 : decode cX4_next 104 = .ok (.aaload, 1) := by decide +kernel
theorem dX4_next_105 : decode cX4_next 105 = .ok (.aload_n 0, 1) := by decide +kernel
theorem dX4_next_106 : decode cX4_next 106 = .ok (.getfield 20, 3) := by decide +kernel
theorem dX4_next_109 : decode cX4_next 109 = .ok (.iload_n 2, 1) := by decide +kernel
theorem dX4_next_110 : decode cX4_next 110 = .ok (.aaload, 1) := by decide +kernel
theorem dX4_next_111 : decode cX4_next 111 = .ok (.invokevirtual 61, 3) := by decide +kernel
theorem dX4_next_114 : decode cX4_next 114 = .ok (.aload_n 0, 1) := by decide +kernel
theorem dX4_next_115 : decode cX4_next 115 = .ok (.getfield 20, 3) := by decide +kernel
theorem dX4_next_118 : decode cX4_next 118 = .ok (.iload_n 2, 1) := by decide +kernel
theorem dX4_next_119 : decode cX4_next 119 = .ok (.iconst 1, 1) := by decide +kernel
theorem dX4_next_120 : decode cX4_next 120 = .ok (.iadd, 1) := by decide +kernel
theorem dX4_next_121 : decode cX4_next 121 = .ok (.aaload, 1) := by decide +kernel
theorem dX4_next_122 : decode cX4_next 122 = .ok (.aload_n 0, 1) := by decide +kernel
theorem dX4_next_123 : decode cX4_next 123 = .ok (.getfield 12, 3) := by decide +kernel
theorem dX4_next_126 : decode cX4_next 126 = .ok (.aload_n 0, 1) := by decide +kernel
theorem dX4_next_127 : decode cX4_next 127 = .ok (.getfield 24, 3) := by decide +kernel
theorem dX4_next_130 : decode cX4_next 130 = .ok (.iload_n 2, 1) := by decide +kernel
theorem dX4_next_131 : decode cX4_next 131 = .ok (.iaload, 1) := by decide +kernel
theorem dX4_next_132 : decode cX4_next 132 = .ok (.invokevirtual 64, 3) := by decide +kernel
theorem dX4_next_135 : decode cX4_next 135 = .ok (.iinc 2 1, 3) := by decide +kernel
theorem dX4_next_138 : decode cX4_next 138 = .ok (.goto (-49), 3) := by decide +kernel
theorem dX4_next_141 : decode cX4_next 141 = .ok (.iconst 1, 1) := by decide +kernel
theorem dX4_next_142 : decode cX4_next 142 = .ok (.ireturn, 1) := by decide +kernel
theorem dX4_reached_0 : decode cX4_reached 0 = .ok (.aload_n 0, 1) := by decide +kernel
theorem dX4_reached_1 : decode cX4_reached 1 = .ok (.getfield 20, 3) := by decide +kernel
theorem dX4_reached_4 : decode cX4_reached 4 = .ok (.aload_n 0, 1) := by decide +kernel
theorem dX4_reached_5 : decode cX4_reached 5 = .ok (.getfield 48, 3) := by decide +kernel
theorem dX4_reached_8 : decode cX4_reached 8 = .ok (.aaload, 1) := by decide +kernel
theorem dX4_reached_9 : decode cX4_reached 9 = .ok (.invokevirtual 68, 3) := by decide +kernel
theorem dX4_reached_12 : decode cX4_reached 12 = .ok (.lreturn, 1) := by decide +kernel
theorem dX4_written_0 : decode cX4_written 0 = .ok (.lconst 0, 1) := by decide +kernel
theorem dX4_written_1 : decode cX4_written 1 = .ok (.lstore_n 1, 1) := by decide +kernel
theorem dX4_written_2 : decode cX4_written 2 = .ok (.iconst 0, 1) := by decide +kernel
theorem dX4_written_3 : decode cX4_written 3 = .ok (.istore_n 3, 1) := by decide +kernel
theorem dX4_written_4 : decode cX4_written 4 = .ok (.iload_n 3, 1) := by decide +kernel
theorem dX4_written_5 : decode cX4_written 5 = .ok (.aload_n 0, 1) := by decide +kernel
theorem dX4_written_6 : decode cX4_written 6 = .ok (.getfield 48, 3) := by decide +kernel
theorem dX4_written_9 : decode cX4_written 9 = .ok (.if_icmp .ge 20, 3) := by decide +kernel
theorem dX4_written_12 : decode cX4_written 12 = .ok (.lload_n 1, 1) := by decide +kernel
theorem dX4_written_13 : decode cX4_written 13 = .ok (.aload_n 0, 1) := by decide +kernel
theorem dX4_written_14 : decode cX4_written 14 = .ok (.getfield 24, 3) := by decide +kernel
theorem dX4_written_17 : decode cX4_written 17 = .ok (.iload_n 3, 1) := by decide +kernel
theorem dX4_written_18 : decode cX4_written 18 = .ok (.iaload, 1) := by decide +kernel
theorem dX4_written_19 : decode cX4_written 19 = .ok (.invokestatic 72, 3) := by decide +kernel
theorem dX4_written_22 : decode cX4_written 22 = .ok (.lstore_n 1, 1) := by decide +kernel
theorem dX4_written_23 : decode cX4_written 23 = .ok (.iinc 3 1, 3) := by decide +kernel
theorem dX4_written_26 : decode cX4_written 26 = .ok (.goto (-22), 3) := by decide +kernel
theorem dX4_written_29 : decode cX4_written 29 = .ok (.lload_n 1, 1) := by decide +kernel
theorem dX4_written_30 : decode cX4_written 30 = .ok (.lreturn, 1) := by decide +kernel
theorem dX4_firstTo_0 : decode cX4_firstTo 0 = .ok (.iconst 0, 1) := by decide +kernel
theorem dX4_firstTo_1 : decode cX4_firstTo 1 = .ok (.istore_n 3, 1) := by decide +kernel
theorem dX4_firstTo_2 : decode cX4_firstTo 2 = .ok (.iload_n 3, 1) := by decide +kernel
theorem dX4_firstTo_3 : decode cX4_firstTo 3 = .ok (.sipush 11110, 3) := by decide +kernel
theorem dX4_firstTo_6 : decode cX4_firstTo 6 = .ok (.if_icmp .ge 30, 3) := by decide +kernel
theorem dX4_firstTo_9 : decode cX4_firstTo 9 = .ok (.aload_n 0, 1) := by decide +kernel
theorem dX4_firstTo_10 : decode cX4_firstTo 10 = .ok (.invokevirtual 76, 3) := by decide +kernel
theorem dX4_firstTo_13 : decode cX4_firstTo 13 = .ok (.ifCond .eq 23, 3) := by decide +kernel
theorem dX4_firstTo_16 : decode cX4_firstTo 16 = .ok (.aload_n 0, 1) := by decide +kernel
theorem dX4_firstTo_17 : decode cX4_firstTo 17 = .ok (.invokevirtual 80, 3) := by decide +kernel
theorem dX4_firstTo_20 : decode cX4_firstTo 20 = .ok (.lload_n 1, 1) := by decide +kernel
theorem dX4_firstTo_21 : decode cX4_firstTo 21 = .ok (.lcmp, 1) := by decide +kernel
theorem dX4_firstTo_22 : decode cX4_firstTo 22 = .ok (.ifCond .ne 8, 3) := by decide +kernel
theorem dX4_firstTo_25 : decode cX4_firstTo 25 = .ok (.aload_n 0, 1) := by decide +kernel
theorem dX4_firstTo_26 : decode cX4_firstTo 26 = .ok (.invokevirtual 81, 3) := by decide +kernel
theorem dX4_firstTo_29 : decode cX4_firstTo 29 = .ok (.lreturn, 1) := by decide +kernel
theorem dX4_firstTo_30 : decode cX4_firstTo 30 = .ok (.iinc 3 1, 3) := by decide +kernel
theorem dX4_firstTo_33 : decode cX4_firstTo 33 = .ok (.goto (-31), 3) := by decide +kernel
theorem dX4_firstTo_36 : decode cX4_firstTo 36 = .ok (.lconst 0, 1) := by decide +kernel
theorem dX4_firstTo_37 : decode cX4_firstTo 37 = .ok (.lreturn, 1) := by decide +kernel
theorem dX4_firstWithin_0 : decode cX4_firstWithin 0 = .ok (.iconst 0, 1) := by decide +kernel
theorem dX4_firstWithin_1 : decode cX4_firstWithin 1 = .ok (.istore_n 3, 1) := by decide +kernel
theorem dX4_firstWithin_2 : decode cX4_firstWithin 2 = .ok (.iload_n 3, 1) := by decide +kernel
theorem dX4_firstWithin_3 : decode cX4_firstWithin 3 = .ok (.sipush 11110, 3) := by decide +kernel
theorem dX4_firstWithin_6 : decode cX4_firstWithin 6 = .ok (.if_icmp .ge 45, 3) := by decide +kernel
theorem dX4_firstWithin_9 : decode cX4_firstWithin 9 = .ok (.aload_n 0, 1) := by decide +kernel
theorem dX4_firstWithin_10 : decode cX4_firstWithin 10 = .ok (.invokevirtual 76, 3) := by decide +kernel
theorem dX4_firstWithin_13 : decode cX4_firstWithin 13 = .ok (.ifCond .eq 38, 3) := by decide +kernel
theorem dX4_firstWithin_16 : decode cX4_firstWithin 16 = .ok (.aload_n 0, 1) := by decide +kernel
theorem dX4_firstWithin_17 : decode cX4_firstWithin 17 = .ok (.invokevirtual 80, 3) := by decide +kernel
theorem dX4_firstWithin_20 : decode cX4_firstWithin 20 = .ok (.lconst 0, 1) := by decide +kernel
theorem dX4_firstWithin_21 : decode cX4_firstWithin 21 = .ok (.lcmp, 1) := by decide +kernel
theorem dX4_firstWithin_22 : decode cX4_firstWithin 22 = .ok (.ifCond .eq 23, 3) := by decide +kernel
theorem dX4_firstWithin_25 : decode cX4_firstWithin 25 = .ok (.aload_n 0, 1) := by decide +kernel
theorem dX4_firstWithin_26 : decode cX4_firstWithin 26 = .ok (.invokevirtual 80, 3) := by decide +kernel
theorem dX4_firstWithin_29 : decode cX4_firstWithin 29 = .ok (.lload_n 1, 1) := by decide +kernel
theorem dX4_firstWithin_30 : decode cX4_firstWithin 30 = .ok (.ldc2_w 84, 3) := by decide +kernel
theorem dX4_firstWithin_33 : decode cX4_firstWithin 33 = .ok (.lxor, 1) := by decide +kernel
theorem dX4_firstWithin_34 : decode cX4_firstWithin 34 = .ok (.land, 1) := by decide +kernel
theorem dX4_firstWithin_35 : decode cX4_firstWithin 35 = .ok (.lconst 0, 1) := by decide +kernel
theorem dX4_firstWithin_36 : decode cX4_firstWithin 36 = .ok (.lcmp, 1) := by decide +kernel
theorem dX4_firstWithin_37 : decode cX4_firstWithin 37 = .ok (.ifCond .ne 8, 3) := by decide +kernel
theorem dX4_firstWithin_40 : decode cX4_firstWithin 40 = .ok (.aload_n 0, 1) := by decide +kernel
theorem dX4_firstWithin_41 : decode cX4_firstWithin 41 = .ok (.invokevirtual 81, 3) := by decide +kernel
theorem dX4_firstWithin_44 : decode cX4_firstWithin 44 = .ok (.lreturn, 1) := by decide +kernel
theorem dX4_firstWithin_45 : decode cX4_firstWithin 45 = .ok (.iinc 3 1, 3) := by decide +kernel
theorem dX4_firstWithin_48 : decode cX4_firstWithin 48 = .ok (.goto (-46), 3) := by decide +kernel
theorem dX4_firstWithin_51 : decode cX4_firstWithin 51 = .ok (.lconst 0, 1) := by decide +kernel
theorem dX4_firstWithin_52 : decode cX4_firstWithin 52 = .ok (.lreturn, 1) := by decide +kernel
theorem dX4_reachOfAll_0 : decode cX4_reachOfAll 0 = .ok (.lconst 0, 1) := by decide +kernel
theorem dX4_reachOfAll_1 : decode cX4_reachOfAll 1 = .ok (.lstore_n 1, 1) := by decide +kernel
theorem dX4_reachOfAll_2 : decode cX4_reachOfAll 2 = .ok (.iconst 0, 1) := by decide +kernel
theorem dX4_reachOfAll_3 : decode cX4_reachOfAll 3 = .ok (.istore_n 3, 1) := by decide +kernel
theorem dX4_reachOfAll_4 : decode cX4_reachOfAll 4 = .ok (.iload_n 3, 1) := by decide +kernel
theorem dX4_reachOfAll_5 : decode cX4_reachOfAll 5 = .ok (.sipush 11110, 3) := by decide +kernel
theorem dX4_reachOfAll_8 : decode cX4_reachOfAll 8 = .ok (.if_icmp .ge 23, 3) := by decide +kernel
theorem dX4_reachOfAll_11 : decode cX4_reachOfAll 11 = .ok (.aload_n 0, 1) := by decide +kernel
theorem dX4_reachOfAll_12 : decode cX4_reachOfAll 12 = .ok (.invokevirtual 76, 3) := by decide +kernel
theorem dX4_reachOfAll_15 : decode cX4_reachOfAll 15 = .ok (.ifCond .eq 16, 3) := by decide +kernel
theorem dX4_reachOfAll_18 : decode cX4_reachOfAll 18 = .ok (.lload_n 1, 1) := by decide +kernel
theorem dX4_reachOfAll_19 : decode cX4_reachOfAll 19 = .ok (.aload_n 0, 1) := by decide +kernel
theorem dX4_reachOfAll_20 : decode cX4_reachOfAll 20 = .ok (.invokevirtual 80, 3) := by decide +kernel
theorem dX4_reachOfAll_23 : decode cX4_reachOfAll 23 = .ok (.lor, 1) := by decide +kernel
theorem dX4_reachOfAll_24 : decode cX4_reachOfAll 24 = .ok (.lstore_n 1, 1) := by decide +kernel
theorem dX4_reachOfAll_25 : decode cX4_reachOfAll 25 = .ok (.iinc 3 1, 3) := by decide +kernel
theorem dX4_reachOfAll_28 : decode cX4_reachOfAll 28 = .ok (.goto (-24), 3) := by decide +kernel
theorem dX4_reachOfAll_31 : decode cX4_reachOfAll 31 = .ok (.lload_n 1, 1) := by decide +kernel
theorem dX4_reachOfAll_32 : decode cX4_reachOfAll 32 = .ok (.lreturn, 1) := by decide +kernel
theorem dX4_unlikeEnds_0 : decode cX4_unlikeEnds 0 = .ok (.iconst 0, 1) := by decide +kernel
theorem dX4_unlikeEnds_1 : decode cX4_unlikeEnds 1 = .ok (.istore_n 1, 1) := by decide +kernel
theorem dX4_unlikeEnds_2 : decode cX4_unlikeEnds 2 = .ok (.iload_n 1, 1) := by decide +kernel
theorem dX4_unlikeEnds_3 : decode cX4_unlikeEnds 3 = .ok (.sipush 16384, 3) := by decide +kernel
theorem dX4_unlikeEnds_6 : decode cX4_unlikeEnds 6 = .ok (.if_icmp .ge 16, 3) := by decide +kernel
theorem dX4_unlikeEnds_9 : decode cX4_unlikeEnds 9 = .ok (.aload_n 0, 1) := by decide +kernel
theorem dX4_unlikeEnds_10 : decode cX4_unlikeEnds 10 = .ok (.getfield 28, 3) := by decide +kernel
theorem dX4_unlikeEnds_13 : decode cX4_unlikeEnds 13 = .ok (.iload_n 1, 1) := by decide +kernel
theorem dX4_unlikeEnds_14 : decode cX4_unlikeEnds 14 = .ok (.lconst 0, 1) := by decide +kernel
theorem dX4_unlikeEnds_15 : decode cX4_unlikeEnds 15 = .ok (.lastore, 1) := by decide +kernel
theorem dX4_unlikeEnds_16 : decode cX4_unlikeEnds 16 = .ok (.iinc 1 1, 3) := by decide +kernel
theorem dX4_unlikeEnds_19 : decode cX4_unlikeEnds 19 = .ok (.goto (-17), 3) := by decide +kernel
theorem dX4_unlikeEnds_22 : decode cX4_unlikeEnds 22 = .ok (.iconst 0, 1) := by decide +kernel
theorem dX4_unlikeEnds_23 : decode cX4_unlikeEnds 23 = .ok (.istore_n 1, 1) := by decide +kernel
theorem dX4_unlikeEnds_24 : decode cX4_unlikeEnds 24 = .ok (.iconst 0, 1) := by decide +kernel
theorem dX4_unlikeEnds_25 : decode cX4_unlikeEnds 25 = .ok (.istore_n 2, 1) := by decide +kernel
theorem dX4_unlikeEnds_26 : decode cX4_unlikeEnds 26 = .ok (.iconst 0, 1) := by decide +kernel
theorem dX4_unlikeEnds_27 : decode cX4_unlikeEnds 27 = .ok (.istore_n 3, 1) := by decide +kernel
theorem dX4_unlikeEnds_28 : decode cX4_unlikeEnds 28 = .ok (.iload_n 3, 1) := by decide +kernel
theorem dX4_unlikeEnds_29 : decode cX4_unlikeEnds 29 = .ok (.sipush 11110, 3) := by decide +kernel
theorem dX4_unlikeEnds_32 : decode cX4_unlikeEnds 32 = .ok (.if_icmp .ge 46, 3) := by decide +kernel
theorem dX4_unlikeEnds_35 : decode cX4_unlikeEnds 35 = .ok (.aload_n 0, 1) := by decide +kernel
theorem dX4_unlikeEnds_36 : decode cX4_unlikeEnds 36 = .ok (.invokevirtual 76, 3) := by decide +kernel
theorem dX4_unlikeEnds_39 : decode cX4_unlikeEnds 39 = .ok (.ifCond .eq 39, 3) := by decide +kernel
theorem dX4_unlikeEnds_42 : decode cX4_unlikeEnds 42 = .ok (.aload_n 0, 1) := by decide +kernel
theorem dX4_unlikeEnds_43 : decode cX4_unlikeEnds 43 = .ok (.invokevirtual 80, 3) := by decide +kernel
theorem dX4_unlikeEnds_46 : decode cX4_unlikeEnds 46 = .ok (.lstore 4, 2) := by decide +kernel
theorem dX4_unlikeEnds_48 : decode cX4_unlikeEnds 48 = .ok (.lload 4, 2) := by decide +kernel
theorem dX4_unlikeEnds_50 : decode cX4_unlikeEnds 50 = .ok (.lconst 0, 1) := by decide +kernel
theorem dX4_unlikeEnds_51 : decode cX4_unlikeEnds 51 = .ok (.lcmp, 1) := by decide +kernel
theorem dX4_unlikeEnds_52 : decode cX4_unlikeEnds 52 = .ok (.ifCond .ne 8, 3) := by decide +kernel
theorem dX4_unlikeEnds_55 : decode cX4_unlikeEnds 55 = .ok (.iconst 1, 1) := by decide +kernel
theorem dX4_unlikeEnds_56 : decode cX4_unlikeEnds 56 = .ok (.istore_n 2, 1) := by decide +kernel
theorem dX4_unlikeEnds_57 : decode cX4_unlikeEnds 57 = .ok (.goto 15, 3) := by decide +kernel
theorem dX4_unlikeEnds_60 : decode cX4_unlikeEnds 60 = .ok (.aload_n 0, 1) := by decide +kernel
theorem dX4_unlikeEnds_61 : decode cX4_unlikeEnds 61 = .ok (.lload 4, 2) := by decide +kernel
theorem dX4_unlikeEnds_63 : decode cX4_unlikeEnds 63 = .ok (.invokevirtual 86, 3) := by decide +kernel
theorem dX4_unlikeEnds_66 : decode cX4_unlikeEnds 66 = .ok (.ifCond .eq 6, 3) := by decide +kernel
theorem dX4_unlikeEnds_69 : decode cX4_unlikeEnds 69 = .ok (.iinc 1 1, 3) := by decide +kernel
theorem dX4_unlikeEnds_72 : decode cX4_unlikeEnds 72 = .ok (.iinc 3 1, 3) := by decide +kernel
theorem dX4_unlikeEnds_75 : decode cX4_unlikeEnds 75 = .ok (.goto (-47), 3) := by decide +kernel
theorem dX4_unlikeEnds_78 : decode cX4_unlikeEnds 78 = .ok (.iload_n 2, 1) := by decide +kernel
theorem dX4_unlikeEnds_79 : decode cX4_unlikeEnds 79 = .ok (.ifCond .eq 9, 3) := by decide +kernel
theorem dX4_unlikeEnds_82 : decode cX4_unlikeEnds 82 = .ok (.iload_n 1, 1) := by decide +kernel
theorem dX4_unlikeEnds_83 : decode cX4_unlikeEnds 83 = .ok (.iconst 1, 1) := by decide +kernel
theorem dX4_unlikeEnds_84 : decode cX4_unlikeEnds 84 = .ok (.iadd, 1) := by decide +kernel
theorem dX4_unlikeEnds_85 : decode cX4_unlikeEnds 85 = .ok (.goto 4, 3) := by decide +kernel
theorem dX4_unlikeEnds_88 : decode cX4_unlikeEnds 88 = .ok (.iload_n 1, 1) := by decide +kernel
theorem dX4_unlikeEnds_89 : decode cX4_unlikeEnds 89 = .ok (.ireturn, 1) := by decide +kernel
theorem dX4_isNew_0 : decode cX4_isNew 0 = .ok (.lload_n 1, 1) := by decide +kernel
theorem dX4_isNew_1 : decode cX4_isNew 1 = .ok (.ldc2_w 90, 3) := by decide +kernel
theorem dX4_isNew_4 : decode cX4_isNew 4 = .ok (.lmul, 1) := by decide +kernel
theorem dX4_isNew_5 : decode cX4_isNew 5 = .ok (.lstore_n 3, 1) := by decide +kernel
theorem dX4_isNew_6 : decode cX4_isNew 6 = .ok (.lload_n 3, 1) := by decide +kernel
theorem dX4_isNew_7 : decode cX4_isNew 7 = .ok (.bipush 50, 2) := by decide +kernel
theorem dX4_isNew_9 : decode cX4_isNew 9 = .ok (.lushr, 1) := by decide +kernel
theorem dX4_isNew_10 : decode cX4_isNew 10 = .ok (.l2i, 1) := by decide +kernel
theorem dX4_isNew_11 : decode cX4_isNew 11 = .ok (.sipush 16383, 3) := by decide +kernel
theorem dX4_isNew_14 : decode cX4_isNew 14 = .ok (.iand, 1) := by decide +kernel
theorem dX4_isNew_15 : decode cX4_isNew 15 = .ok (.istore 5, 2) := by decide +kernel
theorem dX4_isNew_17 : decode cX4_isNew 17 = .ok (.iconst 0, 1) := by decide +kernel
theorem dX4_isNew_18 : decode cX4_isNew 18 = .ok (.istore 6, 2) := by decide +kernel
theorem dX4_isNew_20 : decode cX4_isNew 20 = .ok (.iload 6, 2) := by decide +kernel
theorem dX4_isNew_22 : decode cX4_isNew 22 = .ok (.sipush 16384, 3) := by decide +kernel
theorem dX4_isNew_25 : decode cX4_isNew 25 = .ok (.if_icmp .ge 45, 3) := by decide +kernel
theorem dX4_isNew_28 : decode cX4_isNew 28 = .ok (.aload_n 0, 1) := by decide +kernel
theorem dX4_isNew_29 : decode cX4_isNew 29 = .ok (.getfield 28, 3) := by decide +kernel
theorem dX4_isNew_32 : decode cX4_isNew 32 = .ok (.iload 5, 2) := by decide +kernel
theorem dX4_isNew_34 : decode cX4_isNew 34 = .ok (.laload, 1) := by decide +kernel
theorem dX4_isNew_35 : decode cX4_isNew 35 = .ok (.lconst 0, 1) := by decide +kernel
theorem dX4_isNew_36 : decode cX4_isNew 36 = .ok (.lcmp, 1) := by decide +kernel
theorem dX4_isNew_37 : decode cX4_isNew 37 = .ok (.ifCond .eq 33, 3) := by decide +kernel
theorem dX4_isNew_40 : decode cX4_isNew 40 = .ok (.aload_n 0, 1) := by decide +kernel
theorem dX4_isNew_41 : decode cX4_isNew 41 = .ok (.getfield 28, 3) := by decide +kernel
theorem dX4_isNew_44 : decode cX4_isNew 44 = .ok (.iload 5, 2) := by decide +kernel
theorem dX4_isNew_46 : decode cX4_isNew 46 = .ok (.laload, 1) := by decide +kernel
theorem dX4_isNew_47 : decode cX4_isNew 47 = .ok (.lload_n 1, 1) := by decide +kernel
theorem dX4_isNew_48 : decode cX4_isNew 48 = .ok (.lcmp, 1) := by decide +kernel
theorem dX4_isNew_49 : decode cX4_isNew 49 = .ok (.ifCond .ne 5, 3) := by decide +kernel
theorem dX4_isNew_52 : decode cX4_isNew 52 = .ok (.iconst 0, 1) := by decide +kernel
theorem dX4_isNew_53 : decode cX4_isNew 53 = .ok (.ireturn, 1) := by decide +kernel
theorem dX4_isNew_54 : decode cX4_isNew 54 = .ok (.iload 5, 2) := by decide +kernel
theorem dX4_isNew_56 : decode cX4_isNew 56 = .ok (.iconst 1, 1) := by decide +kernel
theorem dX4_isNew_57 : decode cX4_isNew 57 = .ok (.iadd, 1) := by decide +kernel
theorem dX4_isNew_58 : decode cX4_isNew 58 = .ok (.sipush 16383, 3) := by decide +kernel
theorem dX4_isNew_61 : decode cX4_isNew 61 = .ok (.iand, 1) := by decide +kernel
theorem dX4_isNew_62 : decode cX4_isNew 62 = .ok (.istore 5, 2) := by decide +kernel
theorem dX4_isNew_64 : decode cX4_isNew 64 = .ok (.iinc 6 1, 3) := by decide +kernel
theorem dX4_isNew_67 : decode cX4_isNew 67 = .ok (.goto (-47), 3) := by decide +kernel
theorem dX4_isNew_70 : decode cX4_isNew 70 = .ok (.aload_n 0, 1) := by decide +kernel
theorem dX4_isNew_71 : decode cX4_isNew 71 = .ok (.getfield 28, 3) := by decide +kernel
theorem dX4_isNew_74 : decode cX4_isNew 74 = .ok (.iload 5, 2) := by decide +kernel
theorem dX4_isNew_76 : decode cX4_isNew 76 = .ok (.lload_n 1, 1) := by decide +kernel
theorem dX4_isNew_77 : decode cX4_isNew 77 = .ok (.lastore, 1) := by decide +kernel
theorem dX4_isNew_78 : decode cX4_isNew 78 = .ok (.iconst 1, 1) := by decide +kernel
theorem dX4_isNew_79 : decode cX4_isNew 79 = .ok (.ireturn, 1) := by decide +kernel
theorem dX5_init_0 : decode cX5_init 0 = .ok (.aload_n 0, 1) := by decide +kernel
theorem dX5_init_1 : decode cX5_init 1 = .ok (.invokespecial 3, 3) := by decide +kernel
theorem dX5_init_4 : decode cX5_init 4 = .ok (.aload_n 0, 1) := by decide +kernel
theorem dX5_init_5 : decode cX5_init 5 = .ok (.new 9, 3) := by decide +kernel
theorem dX5_init_8 : decode cX5_init 8 = .ok (.dup, 1) := by decide +kernel
theorem dX5_init_9 : decode cX5_init 9 = .ok (.new 11, 3) := by decide +kernel
theorem dX5_init_12 : decode cX5_init 12 = .ok (.dup, 1) := by decide +kernel
theorem dX5_init_13 : decode cX5_init 13 = .ok (.invokespecial 13, 3) := by decide +kernel
theorem dX5_init_16 : decode cX5_init 16 = .ok (.invokespecial 14, 3) := by decide +kernel
theorem dX5_init_19 : decode cX5_init 19 = .ok (.putfield 17, 3) := by decide +kernel
theorem dX5_init_22 : decode cX5_init 22 = .ok (.aload_n 0, 1) := by decide +kernel
theorem dX5_init_23 : decode cX5_init 23 = .ok (.new 23, 3) := by decide +kernel
theorem dX5_init_26 : decode cX5_init 26 = .ok (.dup, 1) := by decide +kernel
theorem dX5_init_27 : decode cX5_init 27 = .ok (.invokespecial 25, 3) := by decide +kernel
theorem dX5_init_30 : decode cX5_init 30 = .ok (.putfield 26, 3) := by decide +kernel
theorem dX5_init_33 : decode cX5_init 33 = .ok (.aload_n 0, 1) := by decide +kernel
theorem dX5_init_34 : decode cX5_init 34 = .ok (.new 30, 3) := by decide +kernel
theorem dX5_init_37 : decode cX5_init 37 = .ok (.dup, 1) := by decide +kernel
theorem dX5_init_38 : decode cX5_init 38 = .ok (.new 30, 3) := by decide +kernel
theorem dX5_init_41 : decode cX5_init 41 = .ok (.dup, 1) := by decide +kernel
theorem dX5_init_42 : decode cX5_init 42 = .ok (.aconst_null, 1) := by decide +kernel
theorem dX5_init_43 : decode cX5_init 43 = .ok (.invokespecial 32, 3) := by decide +kernel
theorem dX5_init_46 : decode cX5_init 46 = .ok (.invokespecial 32, 3) := by decide +kernel
theorem dX5_init_49 : decode cX5_init 49 = .ok (.putfield 35, 3) := by decide +kernel
theorem dX5_init_52 : decode cX5_init 52 = .ok (.return_, 1) := by decide +kernel
theorem dX5_reachedBy_0 : decode cX5_reachedBy 0 = .ok (.aload_n 0, 1) := by decide +kernel
theorem dX5_reachedBy_1 : decode cX5_reachedBy 1 = .ok (.getfield 26, 3) := by decide +kernel
theorem dX5_reachedBy_4 : decode cX5_reachedBy 4 = .ok (.aload_n 1, 1) := by decide +kernel
theorem dX5_reachedBy_5 : decode cX5_reachedBy 5 = .ok (.aload_n 1, 1) := by decide +kernel
theorem dX5_reachedBy_6 : decode cX5_reachedBy 6 = .ok (.getfield 39, 3) := by decide +kernel
theorem dX5_reachedBy_9 : decode cX5_reachedBy 9 = .ok (.aload_n 1, 1) := by decide +kernel
theorem dX5_reachedBy_10 : decode cX5_reachedBy 10 = .ok (.getfield 43, 3) := by decide +kernel
theorem dX5_reachedBy_13 : decode cX5_reachedBy 13 = .ok (.iload_n 2, 1) := by decide +kernel
theorem dX5_reachedBy_14 : decode cX5_reachedBy 14 = .ok (.iaload, 1) := by decide +kernel
theorem dX5_reachedBy_15 : decode cX5_reachedBy 15 = .ok (.iload_n 2, 1) := by decide +kernel
theorem dX5_reachedBy_16 : decode cX5_reachedBy 16 = .ok (.invokevirtual 46, 3) := by decide +kernel
theorem dX5_reachedBy_19 : decode cX5_reachedBy 19 = .ok (.aload_n 0, 1) := by decide +kernel
theorem dX5_reachedBy_20 : decode cX5_reachedBy 20 = .ok (.getfield 35, 3) := by decide +kernel
theorem dX5_reachedBy_23 : decode cX5_reachedBy 23 = .ok (.aload_n 0, 1) := by decide +kernel
theorem dX5_reachedBy_24 : decode cX5_reachedBy 24 = .ok (.getfield 26, 3) := by decide +kernel
theorem dX5_reachedBy_27 : decode cX5_reachedBy 27 = .ok (.aload_n 1, 1) := by decide +kernel
theorem dX5_reachedBy_28 : decode cX5_reachedBy 28 = .ok (.getfield 39, 3) := by decide +kernel
theorem dX5_reachedBy_31 : decode cX5_reachedBy 31 = .ok (.iload_n 2, 1) := by decide +kernel
theorem dX5_reachedBy_32 : decode cX5_reachedBy 32 = .ok (.iaload, 1) := by decide +kernel
theorem dX5_reachedBy_33 : decode cX5_reachedBy 33 = .ok (.lload_n 3, 1) := by decide +kernel
theorem dX5_reachedBy_34 : decode cX5_reachedBy 34 = .ok (.lconst 0, 1) := by decide +kernel
theorem dX5_reachedBy_35 : decode cX5_reachedBy 35 = .ok (.invokevirtual 50, 3) := by decide +kernel
theorem dX5_reachedBy_38 : decode cX5_reachedBy 38 = .ok (.lreturn, 1) := by decide +kernel
theorem dX5_areAlike_0 : decode cX5_areAlike 0 = .ok (.aload_n 0, 1) := by decide +kernel
theorem dX5_areAlike_1 : decode cX5_areAlike 1 = .ok (.getfield 26, 3) := by decide +kernel
theorem dX5_areAlike_4 : decode cX5_areAlike 4 = .ok (.aload_n 1, 1) := by decide +kernel
theorem dX5_areAlike_5 : decode cX5_areAlike 5 = .ok (.aload_n 1, 1) := by decide +kernel
theorem dX5_areAlike_6 : decode cX5_areAlike 6 = .ok (.getfield 39, 3) := by decide +kernel
theorem dX5_areAlike_9 : decode cX5_areAlike 9 = .ok (.iconst 0, 1) := by decide +kernel
theorem dX5_areAlike_10 : decode cX5_areAlike 10 = .ok (.iconst (-1), 1) := by decide +kernel
theorem dX5_areAlike_11 : decode cX5_areAlike 11 = .ok (.invokevirtual 46, 3) := by decide +kernel
theorem dX5_areAlike_14 : decode cX5_areAlike 14 = .ok (.iconst 0, 1) := by decide +kernel
theorem dX5_areAlike_15 : decode cX5_areAlike 15 = .ok (.istore 6, 2) := by decide +kernel
theorem dX5_areAlike_17 : decode cX5_areAlike 17 = .ok (.iload 6, 2) := by decide +kernel
theorem dX5_areAlike_19 : decode cX5_areAlike 19 = .ok (.aload_n 1, 1) := by decide +kernel
theorem dX5_areAlike_20 : decode cX5_areAlike 20 = .ok (.getfield 54, 3) := by decide +kernel
theorem dX5_areAlike_23 : decode cX5_areAlike 23 = .ok (.aload_n 1, 1) := by decide +kernel
theorem dX5_areAlike_24 : decode cX5_areAlike 24 = .ok (.getfield 58, 3) := by decide +kernel
theorem dX5_areAlike_27 : decode cX5_areAlike 27 = .ok (.imul, 1) := by decide +kernel
theorem dX5_areAlike_28 : decode cX5_areAlike 28 = .ok (.if_icmp .ge 85, 3) := by decide +kernel
theorem dX5_areAlike_31 : decode cX5_areAlike 31 = .ok (.aload_n 1, 1) := by decide +kernel
theorem dX5_areAlike_32 : decode cX5_areAlike 32 = .ok (.getfield 61, 3) := by decide +kernel
theorem dX5_areAlike_35 : decode cX5_areAlike 35 = .ok (.aload_n 1, 1) := by decide +kernel
theorem dX5_areAlike_36 : decode cX5_areAlike 36 = .ok (.getfield 65, 3) := by decide +kernel
theorem dX5_areAlike_39 : decode cX5_areAlike 39 = .ok (.lor, 1) := by decide +kernel
theorem dX5_areAlike_40 : decode cX5_areAlike 40 = .ok (.iload 6, 2) := by decide +kernel
theorem dX5_areAlike_42 : decode cX5_areAlike 42 = .ok (.invokestatic 68, 3) := by decide +kernel
theorem dX5_areAlike_45 : decode cX5_areAlike 45 = .ok (.ifCond .ne 17, 3) := by decide +kernel
theorem dX5_areAlike_48 : decode cX5_areAlike 48 = .ok (.aload_n 1, 1) := by decide +kernel
theorem dX5_areAlike_49 : decode cX5_areAlike 49 = .ok (.iload 6, 2) := by decide +kernel
theorem dX5_areAlike_51 : decode cX5_areAlike 51 = .ok (.invokevirtual 72, 3) := by decide +kernel
theorem dX5_areAlike_54 : decode cX5_areAlike 54 = .ok (.iconst (-1), 1) := by decide +kernel
theorem dX5_areAlike_55 : decode cX5_areAlike 55 = .ok (.if_icmp .ne 7, 3) := by decide +kernel
theorem dX5_areAlike_58 : decode cX5_areAlike 58 = .ok (.iconst 1, 1) := by decide +kernel
theorem dX5_areAlike_59 : decode cX5_areAlike 59 = .ok (.goto 4, 3) := by decide +kernel
theorem dX5_areAlike_62 : decode cX5_areAlike 62 = .ok (.iconst 0, 1) := by decide +kernel
theorem dX5_areAlike_63 : decode cX5_areAlike 63 = .ok (.istore 7, 2) := by decide +kernel
theorem dX5_areAlike_65 : decode cX5_areAlike 65 = .ok (.iload 7, 2) := by decide +kernel
theorem dX5_areAlike_67 : decode cX5_areAlike 67 = .ok (.ifCond .eq 40, 3) := by decide +kernel
theorem dX5_areAlike_70 : decode cX5_areAlike 70 = .ok (.aload_n 0, 1) := by decide +kernel
theorem dX5_areAlike_71 : decode cX5_areAlike 71 = .ok (.getfield 35, 3) := by decide +kernel
theorem dX5_areAlike_74 : decode cX5_areAlike 74 = .ok (.aload_n 0, 1) := by decide +kernel
theorem dX5_areAlike_75 : decode cX5_areAlike 75 = .ok (.getfield 26, 3) := by decide +kernel
theorem dX5_areAlike_78 : decode cX5_areAlike 78 = .ok (.iload 6, 2) := by decide +kernel
theorem dX5_areAlike_80 : decode cX5_areAlike 80 = .ok (.lload_n 2, 1) := by decide +kernel
theorem dX5_areAlike_81 : decode cX5_areAlike 81 = .ok (.lconst 0, 1) := by decide +kernel
theorem dX5_areAlike_82 : decode cX5_areAlike 82 = .ok (.invokevirtual 50, 3) := by decide +kernel
theorem dX5_areAlike_85 : decode cX5_areAlike 85 = .ok (.aload_n 0, 1) := by decide +kernel
theorem dX5_areAlike_86 : decode cX5_areAlike 86 = .ok (.getfield 35, 3) := by decide +kernel
theorem dX5_areAlike_89 : decode cX5_areAlike 89 = .ok (.aload_n 0, 1) := by decide +kernel
theorem dX5_areAlike_90 : decode cX5_areAlike 90 = .ok (.getfield 26, 3) := by decide +kernel
theorem dX5_areAlike_93 : decode cX5_areAlike 93 = .ok (.iload 6, 2) := by decide +kernel
theorem dX5_areAlike_95 : decode cX5_areAlike 95 = .ok (.lload 4, 2) := by decide +kernel
theorem dX5_areAlike_97 : decode cX5_areAlike 97 = .ok (.lconst 0, 1) := by decide +kernel
theorem dX5_areAlike_98 : decode cX5_areAlike 98 = .ok (.invokevirtual 50, 3) := by decide +kernel
theorem dX5_areAlike_101 : decode cX5_areAlike 101 = .ok (.lcmp, 1) := by decide +kernel
theorem dX5_areAlike_102 : decode cX5_areAlike 102 = .ok (.ifCond .eq 5, 3) := by decide +kernel
theorem dX5_areAlike_105 : decode cX5_areAlike 105 = .ok (.iconst 0, 1) := by decide +kernel
theorem dX5_areAlike_106 : decode cX5_areAlike 106 = .ok (.ireturn, 1) := by decide +kernel
theorem dX5_areAlike_107 : decode cX5_areAlike 107 = .ok (.iinc 6 1, 3) := by decide +kernel
theorem dX5_areAlike_110 : decode cX5_areAlike 110 = .ok (.goto (-93), 3) := by decide +kernel
theorem dX5_areAlike_113 : decode cX5_areAlike 113 = .ok (.iconst 1, 1) := by decide +kernel
theorem dX5_areAlike_114 : decode cX5_areAlike 114 = .ok (.ireturn, 1) := by decide +kernel
theorem dX5_reached_0 : decode cX5_reached 0 = .ok (.iconst 1, 1) := by decide +kernel
theorem dX5_reached_1 : decode cX5_reached 1 = .ok (.aload_n 0, 1) := by decide +kernel
theorem dX5_reached_2 : decode cX5_reached 2 = .ok (.getfield 17, 3) := by decide +kernel
theorem dX5_reached_5 : decode cX5_reached 5 = .ok (.getfield 76, 3) := by decide +kernel
theorem dX5_reached_8 : decode cX5_reached 8 = .ok (.isub, 1) := by decide +kernel
theorem dX5_reached_9 : decode cX5_reached 9 = .ok (.istore 5, 2) := by decide +kernel
theorem dX5_reached_11 : decode cX5_reached 11 = .ok (.aload_n 0, 1) := by decide +kernel
theorem dX5_reached_12 : decode cX5_reached 12 = .ok (.getfield 17, 3) := by decide +kernel
theorem dX5_reached_15 : decode cX5_reached 15 = .ok (.iload 5, 2) := by decide +kernel
theorem dX5_reached_17 : decode cX5_reached 17 = .ok (.invokevirtual 79, 3) := by decide +kernel
theorem dX5_reached_20 : decode cX5_reached 20 = .ok (.istore 6, 2) := by decide +kernel
theorem dX5_reached_22 : decode cX5_reached 22 = .ok (.iload 6, 2) := by decide +kernel
theorem dX5_reached_24 : decode cX5_reached 24 = .ok (.iconst (-1), 1) := by decide +kernel
theorem dX5_reached_25 : decode cX5_reached 25 = .ok (.if_icmp .ne 5, 3) := by decide +kernel
theorem dX5_reached_28 : decode cX5_reached 28 = .ok (.lconst 0, 1) := by decide +kernel
theorem dX5_reached_29 : decode cX5_reached 29 = .ok (.lreturn, 1) := by decide +kernel
theorem dX5_reached_30 : decode cX5_reached 30 = .ok (.aload_n 0, 1) := by decide +kernel
theorem dX5_reached_31 : decode cX5_reached 31 = .ok (.getfield 26, 3) := by decide +kernel
theorem dX5_reached_34 : decode cX5_reached 34 = .ok (.aload_n 0, 1) := by decide +kernel
theorem dX5_reached_35 : decode cX5_reached 35 = .ok (.getfield 17, 3) := by decide +kernel
theorem dX5_reached_38 : decode cX5_reached 38 = .ok (.getfield 82, 3) := by decide +kernel
theorem dX5_reached_41 : decode cX5_reached 41 = .ok (.aload_n 0, 1) := by decide +kernel
theorem dX5_reached_42 : decode cX5_reached 42 = .ok (.getfield 17, 3) := by decide +kernel
theorem dX5_reached_45 : decode cX5_reached 45 = .ok (.getfield 86, 3) := by decide +kernel
theorem dX5_reached_48 : decode cX5_reached 48 = .ok (.iload 5, 2) := by decide +kernel
theorem dX5_reached_50 : decode cX5_reached 50 = .ok (.iload 6, 2) := by decide +kernel
theorem dX5_reached_52 : decode cX5_reached 52 = .ok (.invokevirtual 46, 3) := by decide +kernel
theorem dX5_reached_55 : decode cX5_reached 55 = .ok (.aload_n 0, 1) := by decide +kernel
theorem dX5_reached_56 : decode cX5_reached 56 = .ok (.getfield 35, 3) := by decide +kernel
theorem dX5_reached_59 : decode cX5_reached 59 = .ok (.aload_n 0, 1) := by decide +kernel
theorem dX5_reached_60 : decode cX5_reached 60 = .ok (.getfield 26, 3) := by decide +kernel
theorem dX5_reached_63 : decode cX5_reached 63 = .ok (.aload_n 0, 1) := by decide +kernel
theorem dX5_reached_64 : decode cX5_reached 64 = .ok (.getfield 17, 3) := by decide +kernel
theorem dX5_reached_67 : decode cX5_reached 67 = .ok (.getfield 86, 3) := by decide +kernel
theorem dX5_reached_70 : decode cX5_reached 70 = .ok (.iload 6, 2) := by decide +kernel
theorem dX5_reached_72 : decode cX5_reached 72 = .ok (.iaload, 1) := by decide +kernel
theorem dX5_reached_73 : decode cX5_reached 73 = .ok (.lload_n 1, 1) := by decide +kernel
theorem dX5_reached_74 : decode cX5_reached 74 = .ok (.lload_n 3, 1) := by decide +kernel
theorem dX5_reached_75 : decode cX5_reached 75 = .ok (.invokevirtual 50, 3) := by decide +kernel
theorem dX5_reached_78 : decode cX5_reached 78 = .ok (.lreturn, 1) := by decide +kernel
theorem dX5_follow_0 : decode cX5_follow 0 = .ok (.aload_n 1, 1) := by decide +kernel
theorem dX5_follow_1 : decode cX5_follow 1 = .ok (.ifnull 19, 3) := by decide +kernel
theorem dX5_follow_4 : decode cX5_follow 4 = .ok (.aload_n 2, 1) := by decide +kernel
theorem dX5_follow_5 : decode cX5_follow 5 = .ok (.ifnull 15, 3) := by decide +kernel
theorem dX5_follow_8 : decode cX5_follow 8 = .ok (.iload_n 3, 1) := by decide +kernel
theorem dX5_follow_9 : decode cX5_follow 9 = .ok (.ifCond .lt 11, 3) := by decide +kernel
theorem dX5_follow_12 : decode cX5_follow 12 = .ok (.iload_n 3, 1) := by decide +kernel
theorem dX5_follow_13 : decode cX5_follow 13 = .ok (.aload_n 2, 1) := by decide +kernel
theorem dX5_follow_14 : decode cX5_follow 14 = .ok (.getfield 89, 3) := by decide +kernel
theorem dX5_follow_17 : decode cX5_follow 17 = .ok (.if_icmp .le 5, 3) := by decide +kernel
theorem dX5_follow_20 : decode cX5_follow 20 = .ok (.iconst (-1), 1) := by decide +kernel
theorem dX5_follow_21 : decode cX5_follow 21 = .ok (.ireturn, 1) := by decide +kernel
theorem dX5_follow_22 : decode cX5_follow 22 = .ok (.aload_n 0, 1) := by decide +kernel
theorem dX5_follow_23 : decode cX5_follow 23 = .ok (.getfield 17, 3) := by decide +kernel
theorem dX5_follow_26 : decode cX5_follow 26 = .ok (.aload_n 1, 1) := by decide +kernel
theorem dX5_follow_27 : decode cX5_follow 27 = .ok (.iconst 0, 1) := by decide +kernel
theorem dX5_follow_28 : decode cX5_follow 28 = .ok (.invokevirtual 94, 3) := by decide +kernel
theorem dX5_follow_31 : decode cX5_follow 31 = .ok (.iconst 0, 1) := by decide +kernel
theorem dX5_follow_32 : decode cX5_follow 32 = .ok (.istore 4, 2) := by decide +kernel
theorem dX5_follow_34 : decode cX5_follow 34 = .ok (.iload 4, 2) := by decide +kernel
theorem dX5_follow_36 : decode cX5_follow 36 = .ok (.iload_n 3, 1) := by decide +kernel
theorem dX5_follow_37 : decode cX5_follow 37 = .ok (.if_icmp .ge 88, 3) := by decide +kernel
theorem dX5_follow_40 : decode cX5_follow 40 = .ok (.aload_n 0, 1) := by decide +kernel
theorem dX5_follow_41 : decode cX5_follow 41 = .ok (.getfield 17, 3) := by decide +kernel
theorem dX5_follow_44 : decode cX5_follow 44 = .ok (.invokevirtual 98, 3) := by decide +kernel
theorem dX5_follow_47 : decode cX5_follow 47 = .ok (.ifCond .eq 6, 3) := by decide +kernel
theorem dX5_follow_50 : decode cX5_follow 50 = .ok (.iload 4, 2) := by decide +kernel
theorem dX5_follow_52 : decode cX5_follow 52 = .ok (.ireturn, 1) := by decide +kernel
theorem dX5_follow_53 : decode cX5_follow 53 = .ok (.aload_n 0, 1) := by decide +kernel
theorem dX5_follow_54 : decode cX5_follow 54 = .ok (.aload_n 2, 1) := by decide +kernel
theorem dX5_follow_55 : decode cX5_follow 55 = .ok (.getfield 102, 3) := by decide +kernel
theorem dX5_follow_58 : decode cX5_follow 58 = .ok (.iload 4, 2) := by decide +kernel
theorem dX5_follow_60 : decode cX5_follow 60 = .ok (.laload, 1) := by decide +kernel
theorem dX5_follow_61 : decode cX5_follow 61 = .ok (.aload_n 2, 1) := by decide +kernel
theorem dX5_follow_62 : decode cX5_follow 62 = .ok (.iload 4, 2) := by decide +kernel
theorem dX5_follow_64 : decode cX5_follow 64 = .ok (.invokevirtual 106, 3) := by decide +kernel
theorem dX5_follow_67 : decode cX5_follow 67 = .ok (.invokevirtual 110, 3) := by decide +kernel
theorem dX5_follow_70 : decode cX5_follow 70 = .ok (.lstore 5, 2) := by decide +kernel
theorem dX5_follow_72 : decode cX5_follow 72 = .ok (.aload_n 2, 1) := by decide +kernel
theorem dX5_follow_73 : decode cX5_follow 73 = .ok (.getfield 114, 3) := by decide +kernel
theorem dX5_follow_76 : decode cX5_follow 76 = .ok (.iload 4, 2) := by decide +kernel
theorem dX5_follow_78 : decode cX5_follow 78 = .ok (.iaload, 1) := by decide +kernel
theorem dX5_follow_79 : decode cX5_follow 79 = .ok (.istore 7, 2) := by decide +kernel
theorem dX5_follow_81 : decode cX5_follow 81 = .ok (.iload 7, 2) := by decide +kernel
theorem dX5_follow_83 : decode cX5_follow 83 = .ok (.iconst (-1), 1) := by decide +kernel
theorem dX5_follow_84 : decode cX5_follow 84 = .ok (.if_icmp .ne 13, 3) := by decide +kernel
theorem dX5_follow_87 : decode cX5_follow 87 = .ok (.lload 5, 2) := by decide +kernel
theorem dX5_follow_89 : decode cX5_follow 89 = .ok (.lconst 0, 1) := by decide +kernel
theorem dX5_follow_90 : decode cX5_follow 90 = .ok (.lcmp, 1) := by decide +kernel
theorem dX5_follow_91 : decode cX5_follow 91 = .ok (.ifCond .eq 19, 3) := by decide +kernel
theorem dX5_follow_94 : decode cX5_follow 94 = .ok (.goto 13, 3) := by decide +kernel
theorem dX5_follow_97 : decode cX5_follow 97 = .ok (.lload 5, 2) := by decide +kernel
theorem dX5_follow_99 : decode cX5_follow 99 = .ok (.iload 7, 2) := by decide +kernel
theorem dX5_follow_101 : decode cX5_follow 101 = .ok (.invokestatic 68, 3) := by decide +kernel
theorem dX5_follow_104 : decode cX5_follow 104 = .ok (.ifCond .ne 6, 3) := by decide +kernel
theorem dX5_follow_107 : decode cX5_follow 107 = .ok (.iload 4, 2) := by decide +kernel
theorem dX5_follow_109 : decode cX5_follow 109 = .ok (.ireturn, 1) := by decide +kernel
theorem dX5_follow_110 : decode cX5_follow 110 = .ok (.aload_n 0, 1) := by decide +kernel
theorem dX5_follow_111 : decode cX5_follow 111 = .ok (.getfield 17, 3) := by decide +kernel
theorem dX5_follow_114 : decode cX5_follow 114 = .ok (.iload 7, 2) := by decide +kernel
theorem dX5_follow_116 : decode cX5_follow 116 = .ok (.invokevirtual 115, 3) := by decide +kernel
theorem dX5_follow_119 : decode cX5_follow 119 = .ok (.iinc 4 1, 3) := by decide +kernel
theorem dX5_follow_122 : decode cX5_follow 122 = .ok (.goto (-88), 3) := by decide +kernel
theorem dX5_follow_125 : decode cX5_follow 125 = .ok (.iload_n 3, 1) := by decide +kernel
theorem dX5_follow_126 : decode cX5_follow 126 = .ok (.ireturn, 1) := by decide +kernel
theorem dX5_fatalOf_0 : decode cX5_fatalOf 0 = .ok (.aload_n 1, 1) := by decide +kernel
theorem dX5_fatalOf_1 : decode cX5_fatalOf 1 = .ok (.iload_n 2, 1) := by decide +kernel
theorem dX5_fatalOf_2 : decode cX5_fatalOf 2 = .ok (.invokevirtual 119, 3) := by decide +kernel
theorem dX5_fatalOf_5 : decode cX5_fatalOf 5 = .ok (.ifCond .ne 5, 3) := by decide +kernel
theorem dX5_fatalOf_8 : decode cX5_fatalOf 8 = .ok (.iconst (-1), 1) := by decide +kernel
theorem dX5_fatalOf_9 : decode cX5_fatalOf 9 = .ok (.ireturn, 1) := by decide +kernel
theorem dX5_fatalOf_10 : decode cX5_fatalOf 10 = .ok (.aload_n 1, 1) := by decide +kernel
theorem dX5_fatalOf_11 : decode cX5_fatalOf 11 = .ok (.getfield 102, 3) := by decide +kernel
theorem dX5_fatalOf_14 : decode cX5_fatalOf 14 = .ok (.iload_n 2, 1) := by decide +kernel
theorem dX5_fatalOf_15 : decode cX5_fatalOf 15 = .ok (.laload, 1) := by decide +kernel
theorem dX5_fatalOf_16 : decode cX5_fatalOf 16 = .ok (.lstore_n 3, 1) := by decide +kernel
theorem dX5_fatalOf_17 : decode cX5_fatalOf 17 = .ok (.iconst 0, 1) := by decide +kernel
theorem dX5_fatalOf_18 : decode cX5_fatalOf 18 = .ok (.istore 5, 2) := by decide +kernel
theorem dX5_fatalOf_20 : decode cX5_fatalOf 20 = .ok (.iload 5, 2) := by decide +kernel
theorem dX5_fatalOf_22 : decode cX5_fatalOf 22 = .ok (.lload_n 3, 1) := by decide +kernel
theorem dX5_fatalOf_23 : decode cX5_fatalOf 23 = .ok (.invokestatic 123, 3) := by decide +kernel
theorem dX5_fatalOf_26 : decode cX5_fatalOf 26 = .ok (.if_icmp .ge 93, 3) := by decide +kernel
theorem dX5_fatalOf_29 : decode cX5_fatalOf 29 = .ok (.iconst 0, 1) := by decide +kernel
theorem dX5_fatalOf_30 : decode cX5_fatalOf 30 = .ok (.istore 6, 2) := by decide +kernel
theorem dX5_fatalOf_32 : decode cX5_fatalOf 32 = .ok (.iload 6, 2) := by decide +kernel
theorem dX5_fatalOf_34 : decode cX5_fatalOf 34 = .ok (.bipush 10, 2) := by decide +kernel
theorem dX5_fatalOf_36 : decode cX5_fatalOf 36 = .ok (.if_icmp .ge 77, 3) := by decide +kernel
theorem dX5_fatalOf_39 : decode cX5_fatalOf 39 = .ok (.iload 6, 2) := by decide +kernel
theorem dX5_fatalOf_41 : decode cX5_fatalOf 41 = .ok (.lload_n 3, 1) := by decide +kernel
theorem dX5_fatalOf_42 : decode cX5_fatalOf 42 = .ok (.iload 5, 2) := by decide +kernel
theorem dX5_fatalOf_44 : decode cX5_fatalOf 44 = .ok (.invokestatic 127, 3) := by decide +kernel
theorem dX5_fatalOf_47 : decode cX5_fatalOf 47 = .ok (.if_icmp .eq 60, 3) := by decide +kernel
theorem dX5_fatalOf_50 : decode cX5_fatalOf 50 = .ok (.aload_n 0, 1) := by decide +kernel
theorem dX5_fatalOf_51 : decode cX5_fatalOf 51 = .ok (.lload_n 3, 1) := by decide +kernel
theorem dX5_fatalOf_52 : decode cX5_fatalOf 52 = .ok (.iload 5, 2) := by decide +kernel
theorem dX5_fatalOf_54 : decode cX5_fatalOf 54 = .ok (.iload 6, 2) := by decide +kernel
theorem dX5_fatalOf_56 : decode cX5_fatalOf 56 = .ok (.invokestatic 131, 3) := by decide +kernel
theorem dX5_fatalOf_59 : decode cX5_fatalOf 59 = .ok (.aload_n 1, 1) := by decide +kernel
theorem dX5_fatalOf_60 : decode cX5_fatalOf 60 = .ok (.iload_n 2, 1) := by decide +kernel
theorem dX5_fatalOf_61 : decode cX5_fatalOf 61 = .ok (.invokevirtual 106, 3) := by decide +kernel
theorem dX5_fatalOf_64 : decode cX5_fatalOf 64 = .ok (.invokevirtual 110, 3) := by decide +kernel
theorem dX5_fatalOf_67 : decode cX5_fatalOf 67 = .ok (.lstore 7, 2) := by decide +kernel
theorem dX5_fatalOf_69 : decode cX5_fatalOf 69 = .ok (.lload 7, 2) := by decide +kernel
theorem dX5_fatalOf_71 : decode cX5_fatalOf 71 = .ok (.lconst 0, 1) := by decide +kernel
theorem dX5_fatalOf_72 : decode cX5_fatalOf 72 = .ok (.lcmp, 1) := by decide +kernel
theorem dX5_fatalOf_73 : decode cX5_fatalOf 73 = .ok (.ifCond .eq 34, 3) := by decide +kernel
theorem dX5_fatalOf_76 : decode cX5_fatalOf 76 = .ok (.lload 7, 2) := by decide +kernel
theorem dX5_fatalOf_78 : decode cX5_fatalOf 78 = .ok (.aload_n 0, 1) := by decide +kernel
theorem dX5_fatalOf_79 : decode cX5_fatalOf 79 = .ok (.getfield 17, 3) := by decide +kernel
theorem dX5_fatalOf_82 : decode cX5_fatalOf 82 = .ok (.getfield 82, 3) := by decide +kernel
theorem dX5_fatalOf_85 : decode cX5_fatalOf 85 = .ok (.getfield 65, 3) := by decide +kernel
theorem dX5_fatalOf_88 : decode cX5_fatalOf 88 = .ok (.ldc2_w 135, 3) := by decide +kernel
theorem dX5_fatalOf_91 : decode cX5_fatalOf 91 = .ok (.lxor, 1) := by decide +kernel
theorem dX5_fatalOf_92 : decode cX5_fatalOf 92 = .ok (.land, 1) := by decide +kernel
theorem dX5_fatalOf_93 : decode cX5_fatalOf 93 = .ok (.lconst 0, 1) := by decide +kernel
theorem dX5_fatalOf_94 : decode cX5_fatalOf 94 = .ok (.lcmp, 1) := by decide +kernel
theorem dX5_fatalOf_95 : decode cX5_fatalOf 95 = .ok (.ifCond .ne 12, 3) := by decide +kernel
theorem dX5_fatalOf_98 : decode cX5_fatalOf 98 = .ok (.bipush 10, 2) := by decide +kernel
theorem dX5_fatalOf_100 : decode cX5_fatalOf 100 = .ok (.iload 5, 2) := by decide +kernel
theorem dX5_fatalOf_102 : decode cX5_fatalOf 102 = .ok (.imul, 1) := by decide +kernel
theorem dX5_fatalOf_103 : decode cX5_fatalOf 103 = .ok (.iload 6, 2) := by decide +kernel
theorem dX5_fatalOf_105 : decode cX5_fatalOf 105 = .ok (.iadd, 1) := by decide +kernel
theorem dX5_fatalOf_106 : decode cX5_fatalOf 106 = .ok (.ireturn, 1) := by decide +kernel
theorem dX5_fatalOf_107 : decode cX5_fatalOf 107 = .ok (.iinc 6 1, 3) := by decide +kernel
theorem dX5_fatalOf_110 : decode cX5_fatalOf 110 = .ok (.goto (-78), 3) := by decide +kernel
theorem dX5_fatalOf_113 : decode cX5_fatalOf 113 = .ok (.iinc 5 1, 3) := by decide +kernel
theorem dX5_fatalOf_116 : decode cX5_fatalOf 116 = .ok (.goto (-96), 3) := by decide +kernel
theorem dX5_fatalOf_119 : decode cX5_fatalOf 119 = .ok (.iconst (-1), 1) := by decide +kernel
theorem dX5_fatalOf_120 : decode cX5_fatalOf 120 = .ok (.ireturn, 1) := by decide +kernel
theorem dX5_losesBy_0 : decode cX5_losesBy 0 = .ok (.aload_n 1, 1) := by decide +kernel
theorem dX5_losesBy_1 : decode cX5_losesBy 1 = .ok (.iload_n 2, 1) := by decide +kernel
theorem dX5_losesBy_2 : decode cX5_losesBy 2 = .ok (.invokevirtual 119, 3) := by decide +kernel
theorem dX5_losesBy_5 : decode cX5_losesBy 5 = .ok (.ifCond .eq 13, 3) := by decide +kernel
theorem dX5_losesBy_8 : decode cX5_losesBy 8 = .ok (.aload_n 1, 1) := by decide +kernel
theorem dX5_losesBy_9 : decode cX5_losesBy 9 = .ok (.getfield 114, 3) := by decide +kernel
theorem dX5_losesBy_12 : decode cX5_losesBy 12 = .ok (.iload_n 2, 1) := by decide +kernel
theorem dX5_losesBy_13 : decode cX5_losesBy 13 = .ok (.iaload, 1) := by decide +kernel
theorem dX5_losesBy_14 : decode cX5_losesBy 14 = .ok (.iconst (-1), 1) := by decide +kernel
theorem dX5_losesBy_15 : decode cX5_losesBy 15 = .ok (.if_icmp .ne 5, 3) := by decide +kernel
theorem dX5_losesBy_18 : decode cX5_losesBy 18 = .ok (.iconst 0, 1) := by decide +kernel
theorem dX5_losesBy_19 : decode cX5_losesBy 19 = .ok (.ireturn, 1) := by decide +kernel
theorem dX5_losesBy_20 : decode cX5_losesBy 20 = .ok (.aload_n 0, 1) := by decide +kernel
theorem dX5_losesBy_21 : decode cX5_losesBy 21 = .ok (.aload_n 1, 1) := by decide +kernel
theorem dX5_losesBy_22 : decode cX5_losesBy 22 = .ok (.getfield 102, 3) := by decide +kernel
theorem dX5_losesBy_25 : decode cX5_losesBy 25 = .ok (.iload_n 2, 1) := by decide +kernel
theorem dX5_losesBy_26 : decode cX5_losesBy 26 = .ok (.laload, 1) := by decide +kernel
theorem dX5_losesBy_27 : decode cX5_losesBy 27 = .ok (.aload_n 1, 1) := by decide +kernel
theorem dX5_losesBy_28 : decode cX5_losesBy 28 = .ok (.iload_n 2, 1) := by decide +kernel
theorem dX5_losesBy_29 : decode cX5_losesBy 29 = .ok (.invokevirtual 106, 3) := by decide +kernel
theorem dX5_losesBy_32 : decode cX5_losesBy 32 = .ok (.invokevirtual 110, 3) := by decide +kernel
theorem dX5_losesBy_35 : decode cX5_losesBy 35 = .ok (.lstore_n 3, 1) := by decide +kernel
theorem dX5_losesBy_36 : decode cX5_losesBy 36 = .ok (.lload_n 3, 1) := by decide +kernel
theorem dX5_losesBy_37 : decode cX5_losesBy 37 = .ok (.aload_n 0, 1) := by decide +kernel
theorem dX5_losesBy_38 : decode cX5_losesBy 38 = .ok (.getfield 17, 3) := by decide +kernel
theorem dX5_losesBy_41 : decode cX5_losesBy 41 = .ok (.getfield 82, 3) := by decide +kernel
theorem dX5_losesBy_44 : decode cX5_losesBy 44 = .ok (.getfield 65, 3) := by decide +kernel
theorem dX5_losesBy_47 : decode cX5_losesBy 47 = .ok (.ldc2_w 135, 3) := by decide +kernel
theorem dX5_losesBy_50 : decode cX5_losesBy 50 = .ok (.lxor, 1) := by decide +kernel
theorem dX5_losesBy_51 : decode cX5_losesBy 51 = .ok (.land, 1) := by decide +kernel
theorem dX5_losesBy_52 : decode cX5_losesBy 52 = .ok (.aload_n 0, 1) := by decide +kernel
theorem dX5_losesBy_53 : decode cX5_losesBy 53 = .ok (.getfield 26, 3) := by decide +kernel
theorem dX5_losesBy_56 : decode cX5_losesBy 56 = .ok (.getfield 137, 3) := by decide +kernel
theorem dX5_losesBy_59 : decode cX5_losesBy 59 = .ok (.ldc2_w 135, 3) := by decide +kernel
theorem dX5_losesBy_62 : decode cX5_losesBy 62 = .ok (.lxor, 1) := by decide +kernel
theorem dX5_losesBy_63 : decode cX5_losesBy 63 = .ok (.land, 1) := by decide +kernel
theorem dX5_losesBy_64 : decode cX5_losesBy 64 = .ok (.lstore 5, 2) := by decide +kernel
theorem dX5_losesBy_66 : decode cX5_losesBy 66 = .ok (.lload 5, 2) := by decide +kernel
theorem dX5_losesBy_68 : decode cX5_losesBy 68 = .ok (.lconst 0, 1) := by decide +kernel
theorem dX5_losesBy_69 : decode cX5_losesBy 69 = .ok (.lcmp, 1) := by decide +kernel
theorem dX5_losesBy_70 : decode cX5_losesBy 70 = .ok (.ifCond .eq 21, 3) := by decide +kernel
theorem dX5_losesBy_73 : decode cX5_losesBy 73 = .ok (.lload 5, 2) := by decide +kernel
theorem dX5_losesBy_75 : decode cX5_losesBy 75 = .ok (.aload_n 1, 1) := by decide +kernel
theorem dX5_losesBy_76 : decode cX5_losesBy 76 = .ok (.getfield 114, 3) := by decide +kernel
theorem dX5_losesBy_79 : decode cX5_losesBy 79 = .ok (.iload_n 2, 1) := by decide +kernel
theorem dX5_losesBy_80 : decode cX5_losesBy 80 = .ok (.iaload, 1) := by decide +kernel
theorem dX5_losesBy_81 : decode cX5_losesBy 81 = .ok (.invokestatic 68, 3) := by decide +kernel
theorem dX5_losesBy_84 : decode cX5_losesBy 84 = .ok (.ifCond .ne 7, 3) := by decide +kernel
theorem dX5_losesBy_87 : decode cX5_losesBy 87 = .ok (.iconst 1, 1) := by decide +kernel
theorem dX5_losesBy_88 : decode cX5_losesBy 88 = .ok (.goto 4, 3) := by decide +kernel
theorem dX5_losesBy_91 : decode cX5_losesBy 91 = .ok (.iconst 0, 1) := by decide +kernel
theorem dX5_losesBy_92 : decode cX5_losesBy 92 = .ok (.ireturn, 1) := by decide +kernel
theorem dX5_draw_0 : decode cX5_draw 0 = .ok (.aload_n 0, 1) := by decide +kernel
theorem dX5_draw_1 : decode cX5_draw 1 = .ok (.getfield 17, 3) := by decide +kernel
theorem dX5_draw_4 : decode cX5_draw 4 = .ok (.aload_n 1, 1) := by decide +kernel
theorem dX5_draw_5 : decode cX5_draw 5 = .ok (.iconst 0, 1) := by decide +kernel
theorem dX5_draw_6 : decode cX5_draw 6 = .ok (.invokevirtual 94, 3) := by decide +kernel
theorem dX5_draw_9 : decode cX5_draw 9 = .ok (.aload_n 0, 1) := by decide +kernel
theorem dX5_draw_10 : decode cX5_draw 10 = .ok (.iload_n 2, 1) := by decide +kernel
theorem dX5_draw_11 : decode cX5_draw 11 = .ok (.putfield 140, 3) := by decide +kernel
theorem dX5_draw_14 : decode cX5_draw 14 = .ok (.iconst 0, 1) := by decide +kernel
theorem dX5_draw_15 : decode cX5_draw 15 = .ok (.istore 4, 2) := by decide +kernel
theorem dX5_draw_17 : decode cX5_draw 17 = .ok (.iload 4, 2) := by decide +kernel
theorem dX5_draw_19 : decode cX5_draw 19 = .ok (.iload_n 3, 1) := by decide +kernel
theorem dX5_draw_20 : decode cX5_draw 20 = .ok (.if_icmp .ge 104, 3) := by decide +kernel
theorem dX5_draw_23 : decode cX5_draw 23 = .ok (.aload_n 0, 1) := by decide +kernel
theorem dX5_draw_24 : decode cX5_draw 24 = .ok (.getfield 17, 3) := by decide +kernel
theorem dX5_draw_27 : decode cX5_draw 27 = .ok (.invokevirtual 98, 3) := by decide +kernel
theorem dX5_draw_30 : decode cX5_draw 30 = .ok (.ifCond .eq 6, 3) := by decide +kernel
theorem dX5_draw_33 : decode cX5_draw 33 = .ok (.iload 4, 2) := by decide +kernel
theorem dX5_draw_35 : decode cX5_draw 35 = .ok (.ireturn, 1) := by decide +kernel
theorem dX5_draw_36 : decode cX5_draw 36 = .ok (.lconst 0, 1) := by decide +kernel
theorem dX5_draw_37 : decode cX5_draw 37 = .ok (.lstore 5, 2) := by decide +kernel
theorem dX5_draw_39 : decode cX5_draw 39 = .ok (.aload_n 0, 1) := by decide +kernel
theorem dX5_draw_40 : decode cX5_draw 40 = .ok (.iconst 3, 1) := by decide +kernel
theorem dX5_draw_41 : decode cX5_draw 41 = .ok (.invokevirtual 143, 3) := by decide +kernel
theorem dX5_draw_44 : decode cX5_draw 44 = .ok (.iconst 1, 1) := by decide +kernel
theorem dX5_draw_45 : decode cX5_draw 45 = .ok (.iadd, 1) := by decide +kernel
theorem dX5_draw_46 : decode cX5_draw 46 = .ok (.istore 7, 2) := by decide +kernel
theorem dX5_draw_48 : decode cX5_draw 48 = .ok (.iconst 0, 1) := by decide +kernel
theorem dX5_draw_49 : decode cX5_draw 49 = .ok (.istore 8, 2) := by decide +kernel
theorem dX5_draw_51 : decode cX5_draw 51 = .ok (.iload 8, 2) := by decide +kernel
theorem dX5_draw_53 : decode cX5_draw 53 = .ok (.iload 7, 2) := by decide +kernel
theorem dX5_draw_55 : decode cX5_draw 55 = .ok (.if_icmp .ge 22, 3) := by decide +kernel
theorem dX5_draw_58 : decode cX5_draw 58 = .ok (.lload 5, 2) := by decide +kernel
theorem dX5_draw_60 : decode cX5_draw 60 = .ok (.aload_n 0, 1) := by decide +kernel
theorem dX5_draw_61 : decode cX5_draw 61 = .ok (.bipush 10, 2) := by decide +kernel
theorem dX5_draw_63 : decode cX5_draw 63 = .ok (.invokevirtual 143, 3) := by decide +kernel
theorem dX5_draw_66 : decode cX5_draw 66 = .ok (.invokestatic 146, 3) := by decide +kernel
theorem dX5_draw_69 : decode cX5_draw 69 = .ok (.lstore 5, 2) := by decide +kernel
theorem dX5_draw_71 : decode cX5_draw 71 = .ok (.iinc 8 1, 3) := by decide +kernel
theorem dX5_draw_74 : decode cX5_draw 74 = .ok (.goto (-23), 3) := by decide +kernel
theorem dX5_draw_77 : decode cX5_draw 77 = .ok (.aload_n 0, 1) := by decide +kernel
theorem dX5_draw_78 : decode cX5_draw 78 = .ok (.lload 5, 2) := by decide +kernel
theorem dX5_draw_80 : decode cX5_draw 80 = .ok (.lconst 0, 1) := by decide +kernel
theorem dX5_draw_81 : decode cX5_draw 81 = .ok (.invokevirtual 110, 3) := by decide +kernel
theorem dX5_draw_84 : decode cX5_draw 84 = .ok (.lstore 8, 2) := by decide +kernel
theorem dX5_draw_86 : decode cX5_draw 86 = .ok (.aload_n 0, 1) := by decide +kernel
theorem dX5_draw_87 : decode cX5_draw 87 = .ok (.getfield 17, 3) := by decide +kernel
theorem dX5_draw_90 : decode cX5_draw 90 = .ok (.lload 8, 2) := by decide +kernel
theorem dX5_draw_92 : decode cX5_draw 92 = .ok (.lconst 0, 1) := by decide +kernel
theorem dX5_draw_93 : decode cX5_draw 93 = .ok (.lcmp, 1) := by decide +kernel
theorem dX5_draw_94 : decode cX5_draw 94 = .ok (.ifCond .ne 7, 3) := by decide +kernel
theorem dX5_draw_97 : decode cX5_draw 97 = .ok (.iconst (-1), 1) := by decide +kernel
theorem dX5_draw_98 : decode cX5_draw 98 = .ok (.goto 17, 3) := by decide +kernel
theorem dX5_draw_101 : decode cX5_draw 101 = .ok (.lload 8, 2) := by decide +kernel
theorem dX5_draw_103 : decode cX5_draw 103 = .ok (.aload_n 0, 1) := by decide +kernel
theorem dX5_draw_104 : decode cX5_draw 104 = .ok (.lload 8, 2) := by decide +kernel
theorem dX5_draw_106 : decode cX5_draw 106 = .ok (.invokestatic 150, 3) := by decide +kernel
theorem dX5_draw_109 : decode cX5_draw 109 = .ok (.invokevirtual 143, 3) := by decide +kernel
theorem dX5_draw_112 : decode cX5_draw 112 = .ok (.invokestatic 155, 3) := by decide +kernel
theorem dX5_draw_115 : decode cX5_draw 115 = .ok (.invokevirtual 115, 3) := by decide +kernel
theorem dX5_draw_118 : decode cX5_draw 118 = .ok (.iinc 4 1, 3) := by decide +kernel
theorem dX5_draw_121 : decode cX5_draw 121 = .ok (.goto (-104), 3) := by decide +kernel
theorem dX5_draw_124 : decode cX5_draw 124 = .ok (.iload_n 3, 1) := by decide +kernel
theorem dX5_draw_125 : decode cX5_draw 125 = .ok (.ireturn, 1) := by decide +kernel
theorem dX5_below_0 : decode cX5_below 0 = .ok (.aload_n 0, 1) := by decide +kernel
theorem dX5_below_1 : decode cX5_below 1 = .ok (.aload_n 0, 1) := by decide +kernel
theorem dX5_below_2 : decode cX5_below 2 = .ok (.getfield 140, 3) := by decide +kernel
theorem dX5_below_5 : decode cX5_below 5 = .ok (.ldc 158, 2) := by decide +kernel
theorem dX5_below_7 : decode cX5_below 7 = .ok (.imul, 1) := by decide +kernel
theorem dX5_below_8 : decode cX5_below 8 = .ok (.sipush 12345, 3) := by decide +kernel
theorem dX5_below_11 : decode cX5_below 11 = .ok (.iadd, 1) := by decide +kernel
theorem dX5_below_12 : decode cX5_below 12 = .ok (.putfield 140, 3) := by decide +kernel
theorem dX5_below_15 : decode cX5_below 15 = .ok (.iload_n 1, 1) := by decide +kernel
theorem dX5_below_16 : decode cX5_below 16 = .ok (.ifCond .le 15, 3) := by decide +kernel
theorem dX5_below_19 : decode cX5_below 19 = .ok (.aload_n 0, 1) := by decide +kernel
theorem dX5_below_20 : decode cX5_below 20 = .ok (.getfield 140, 3) := by decide +kernel
theorem dX5_below_23 : decode cX5_below 23 = .ok (.bipush 16, 2) := by decide +kernel
theorem dX5_below_25 : decode cX5_below 25 = .ok (.iushr, 1) := by decide +kernel
theorem dX5_below_26 : decode cX5_below 26 = .ok (.iload_n 1, 1) := by decide +kernel
theorem dX5_below_27 : decode cX5_below 27 = .ok (.irem, 1) := by decide +kernel
theorem dX5_below_28 : decode cX5_below 28 = .ok (.goto 4, 3) := by decide +kernel
theorem dX5_below_31 : decode cX5_below 31 = .ok (.iconst 0, 1) := by decide +kernel
theorem dX5_below_32 : decode cX5_below 32 = .ok (.ireturn, 1) := by decide +kernel
theorem dX5_fieldAt_0 : decode cX5_fieldAt 0 = .ok (.iload_n 2, 1) := by decide +kernel
theorem dX5_fieldAt_1 : decode cX5_fieldAt 1 = .ok (.istore_n 3, 1) := by decide +kernel
theorem dX5_fieldAt_2 : decode cX5_fieldAt 2 = .ok (.iconst 0, 1) := by decide +kernel
theorem dX5_fieldAt_3 : decode cX5_fieldAt 3 = .ok (.istore 4, 2) := by decide +kernel
theorem dX5_fieldAt_5 : decode cX5_fieldAt 5 = .ok (.iload 4, 2) := by decide +kernel
theorem dX5_fieldAt_7 : decode cX5_fieldAt 7 = .ok (.bipush 36, 2) := by decide +kernel
theorem dX5_fieldAt_9 : decode cX5_fieldAt 9 = .ok (.if_icmp .ge 28, 3) := by decide +kernel
theorem dX5_fieldAt_12 : decode cX5_fieldAt 12 = .ok (.lload_n 0, 1) := by decide +kernel
theorem dX5_fieldAt_13 : decode cX5_fieldAt 13 = .ok (.iload 4, 2) := by decide +kernel
theorem dX5_fieldAt_15 : decode cX5_fieldAt 15 = .ok (.invokestatic 68, 3) := by decide +kernel
theorem dX5_fieldAt_18 : decode cX5_fieldAt 18 = .ok (.ifCond .eq 13, 3) := by decide +kernel
theorem dX5_fieldAt_21 : decode cX5_fieldAt 21 = .ok (.iload_n 3, 1) := by decide +kernel
theorem dX5_fieldAt_22 : decode cX5_fieldAt 22 = .ok (.ifCond .ne 6, 3) := by decide +kernel
theorem dX5_fieldAt_25 : decode cX5_fieldAt 25 = .ok (.iload 4, 2) := by decide +kernel
theorem dX5_fieldAt_27 : decode cX5_fieldAt 27 = .ok (.ireturn, 1) := by decide +kernel
theorem dX5_fieldAt_28 : decode cX5_fieldAt 28 = .ok (.iinc 3 (-1), 3) := by decide +kernel
theorem dX5_fieldAt_31 : decode cX5_fieldAt 31 = .ok (.iinc 4 1, 3) := by decide +kernel
theorem dX5_fieldAt_34 : decode cX5_fieldAt 34 = .ok (.goto (-29), 3) := by decide +kernel
theorem dX5_fieldAt_37 : decode cX5_fieldAt 37 = .ok (.iconst (-1), 1) := by decide +kernel
theorem dX5_fieldAt_38 : decode cX5_fieldAt 38 = .ok (.ireturn, 1) := by decide +kernel
theorem dX6_init_0 : decode cX6_init 0 = .ok (.aload_n 0, 1) := by decide +kernel
theorem dX6_init_1 : decode cX6_init 1 = .ok (.invokespecial 3, 3) := by decide +kernel
theorem dX6_init_4 : decode cX6_init 4 = .ok (.aload_n 0, 1) := by decide +kernel
theorem dX6_init_5 : decode cX6_init 5 = .ok (.new 9, 3) := by decide +kernel
theorem dX6_init_8 : decode cX6_init 8 = .ok (.dup, 1) := by decide +kernel
theorem dX6_init_9 : decode cX6_init 9 = .ok (.invokespecial 11, 3) := by decide +kernel
theorem dX6_init_12 : decode cX6_init 12 = .ok (.putfield 12, 3) := by decide +kernel
theorem dX6_init_15 : decode cX6_init 15 = .ok (.aload_n 0, 1) := by decide +kernel
theorem dX6_init_16 : decode cX6_init 16 = .ok (.new 18, 3) := by decide +kernel
theorem dX6_init_19 : decode cX6_init 19 = .ok (.dup, 1) := by decide +kernel
theorem dX6_init_20 : decode cX6_init 20 = .ok (.invokespecial 20, 3) := by decide +kernel
theorem dX6_init_23 : decode cX6_init 23 = .ok (.putfield 21, 3) := by decide +kernel
theorem dX6_init_26 : decode cX6_init 26 = .ok (.aload_n 0, 1) := by decide +kernel
theorem dX6_init_27 : decode cX6_init 27 = .ok (.iconst 0, 1) := by decide +kernel
theorem dX6_init_28 : decode cX6_init 28 = .ok (.newarray .int, 2) := by decide +kernel
theorem dX6_init_30 : decode cX6_init 30 = .ok (.putfield 25, 3) := by decide +kernel
theorem dX6_init_33 : decode cX6_init 33 = .ok (.return_, 1) := by decide +kernel
theorem dX6_read_0 : decode cX6_read 0 = .ok (.aload_n 0, 1) := by decide +kernel
theorem dX6_read_1 : decode cX6_read 1 = .ok (.aload_n 2, 1) := by decide +kernel
theorem dX6_read_2 : decode cX6_read 2 = .ok (.putfield 25, 3) := by decide +kernel
theorem dX6_read_5 : decode cX6_read 5 = .ok (.aload_n 0, 1) := by decide +kernel
theorem dX6_read_6 : decode cX6_read 6 = .ok (.iload_n 3, 1) := by decide +kernel
theorem dX6_read_7 : decode cX6_read 7 = .ok (.aload_n 2, 1) := by decide +kernel
theorem dX6_read_8 : decode cX6_read 8 = .ok (.arraylength, 1) := by decide +kernel
theorem dX6_read_9 : decode cX6_read 9 = .ok (.invokestatic 29, 3) := by decide +kernel
theorem dX6_read_12 : decode cX6_read 12 = .ok (.putfield 35, 3) := by decide +kernel
theorem dX6_read_15 : decode cX6_read 15 = .ok (.aload_n 0, 1) := by decide +kernel
theorem dX6_read_16 : decode cX6_read 16 = .ok (.iconst 0, 1) := by decide +kernel
theorem dX6_read_17 : decode cX6_read 17 = .ok (.putfield 39, 3) := by decide +kernel
theorem dX6_read_20 : decode cX6_read 20 = .ok (.aload_n 0, 1) := by decide +kernel
theorem dX6_read_21 : decode cX6_read 21 = .ok (.iconst 0, 1) := by decide +kernel
theorem dX6_read_22 : decode cX6_read 22 = .ok (.putfield 42, 3) := by decide +kernel
theorem dX6_read_25 : decode cX6_read 25 = .ok (.aload_n 0, 1) := by decide +kernel
theorem dX6_read_26 : decode cX6_read 26 = .ok (.iconst (-1), 1) := by decide +kernel
theorem dX6_read_27 : decode cX6_read 27 = .ok (.putfield 45, 3) := by decide +kernel
theorem dX6_read_30 : decode cX6_read 30 = .ok (.aload_n 0, 1) := by decide +kernel
theorem dX6_read_31 : decode cX6_read 31 = .ok (.getfield 12, 3) := by decide +kernel
theorem dX6_read_34 : decode cX6_read 34 = .ok (.invokevirtual 48, 3) := by decide +kernel
theorem dX6_read_37 : decode cX6_read 37 = .ok (.aload_n 0, 1) := by decide +kernel
theorem dX6_read_38 : decode cX6_read 38 = .ok (.getfield 21, 3) := by decide +kernel
theorem dX6_read_41 : decode cX6_read 41 = .ok (.iconst 0, 1) := by decide +kernel
theorem dX6_read_42 : decode cX6_read 42 = .ok (.putfield 51, 3) := by decide +kernel
theorem dX6_read_45 : decode cX6_read 45 = .ok (.aload_n 0, 1) := by decide +kernel
theorem dX6_read_46 : decode cX6_read 46 = .ok (.invokevirtual 54, 3) := by decide +kernel
theorem dX6_read_49 : decode cX6_read 49 = .ok (.iload_n 1, 1) := by decide +kernel
theorem dX6_read_50 : decode cX6_read 50 = .ok (.iconst 1, 1) := by decide +kernel
theorem dX6_read_51 : decode cX6_read 51 = .ok (.if_icmp .ne 18, 3) := by decide +kernel
theorem dX6_read_54 : decode cX6_read 54 = .ok (.aload_n 0, 1) := by decide +kernel
theorem dX6_read_55 : decode cX6_read 55 = .ok (.invokevirtual 57, 3) := by decide +kernel
theorem dX6_read_58 : decode cX6_read 58 = .ok (.ifCond .eq 15, 3) := by decide +kernel
theorem dX6_read_61 : decode cX6_read 61 = .ok (.aload_n 0, 1) := by decide +kernel
theorem dX6_read_62 : decode cX6_read 62 = .ok (.getfield 61, 3) := by decide +kernel
theorem dX6_read_65 : decode cX6_read 65 = .ok (.iconst 5, 1) := by decide +kernel
theorem dX6_read_66 : decode cX6_read 66 = .ok (.if_icmp .ne 7, 3) := by decide +kernel
theorem dX6_read_69 : decode cX6_read 69 = .ok (.iconst 1, 1) := by decide +kernel
theorem dX6_read_70 : decode cX6_read 70 = .ok (.goto 4, 3) := by decide +kernel
theorem dX6_read_73 : decode cX6_read 73 = .ok (.iconst 0, 1) := by decide +kernel
theorem dX6_read_74 : decode cX6_read 74 = .ok (.istore 4, 2) := by decide +kernel
theorem dX6_read_76 : decode cX6_read 76 = .ok (.iconst 0, 1) := by decide +kernel
theorem dX6_read_77 : decode cX6_read 77 = .ok (.istore 5, 2) := by decide +kernel
theorem dX6_read_79 : decode cX6_read 79 = .ok (.iload 5, 2) := by decide +kernel
theorem dX6_read_81 : decode cX6_read 81 = .ok (.sipush 600, 3) := by decide +kernel
theorem dX6_read_84 : decode cX6_read 84 = .ok (.if_icmp .ge 39, 3) := by decide +kernel
theorem dX6_read_87 : decode cX6_read 87 = .ok (.iload 4, 2) := by decide +kernel
theorem dX6_read_89 : decode cX6_read 89 = .ok (.ifCond .eq 34, 3) := by decide +kernel
theorem dX6_read_92 : decode cX6_read 92 = .ok (.aload_n 0, 1) := by decide +kernel
theorem dX6_read_93 : decode cX6_read 93 = .ok (.getfield 61, 3) := by decide +kernel
theorem dX6_read_96 : decode cX6_read 96 = .ok (.iconst 5, 1) := by decide +kernel
theorem dX6_read_97 : decode cX6_read 97 = .ok (.if_icmp .eq 26, 3) := by decide +kernel
theorem dX6_read_100 : decode cX6_read 100 = .ok (.iload_n 1, 1) := by decide +kernel
theorem dX6_read_101 : decode cX6_read 101 = .ok (.ifCond .ne 10, 3) := by decide +kernel
theorem dX6_read_104 : decode cX6_read 104 = .ok (.aload_n 0, 1) := by decide +kernel
theorem dX6_read_105 : decode cX6_read 105 = .ok (.invokevirtual 64, 3) := by decide +kernel
theorem dX6_read_108 : decode cX6_read 108 = .ok (.goto 7, 3) := by decide +kernel
theorem dX6_read_111 : decode cX6_read 111 = .ok (.aload_n 0, 1) := by decide +kernel
theorem dX6_read_112 : decode cX6_read 112 = .ok (.invokevirtual 67, 3) := by decide +kernel
theorem dX6_read_115 : decode cX6_read 115 = .ok (.istore 4, 2) := by decide +kernel
theorem dX6_read_117 : decode cX6_read 117 = .ok (.iinc 5 1, 3) := by decide +kernel
theorem dX6_read_120 : decode cX6_read 120 = .ok (.goto (-41), 3) := by decide +kernel
theorem dX6_read_123 : decode cX6_read 123 = .ok (.aload_n 0, 1) := by decide +kernel
theorem dX6_read_124 : decode cX6_read 124 = .ok (.getfield 12, 3) := by decide +kernel
theorem dX6_read_127 : decode cX6_read 127 = .ok (.invokevirtual 70, 3) := by decide +kernel
theorem dX6_read_130 : decode cX6_read 130 = .ok (.iload 4, 2) := by decide +kernel
theorem dX6_read_132 : decode cX6_read 132 = .ok (.ifCond .ne 19, 3) := by decide +kernel
theorem dX6_read_135 : decode cX6_read 135 = .ok (.aload_n 0, 1) := by decide +kernel
theorem dX6_read_136 : decode cX6_read 136 = .ok (.iconst 1, 1) := by decide +kernel
theorem dX6_read_137 : decode cX6_read 137 = .ok (.putfield 42, 3) := by decide +kernel
theorem dX6_read_140 : decode cX6_read 140 = .ok (.aload_n 0, 1) := by decide +kernel
theorem dX6_read_141 : decode cX6_read 141 = .ok (.aload_n 0, 1) := by decide +kernel
theorem dX6_read_142 : decode cX6_read 142 = .ok (.getfield 73, 3) := by decide +kernel
theorem dX6_read_145 : decode cX6_read 145 = .ok (.putfield 45, 3) := by decide +kernel
theorem dX6_read_148 : decode cX6_read 148 = .ok (.goto 33, 3) := by decide +kernel
theorem dX6_read_151 : decode cX6_read 151 = .ok (.aload_n 0, 1) := by decide +kernel
theorem dX6_read_152 : decode cX6_read 152 = .ok (.getfield 42, 3) := by decide +kernel
theorem dX6_read_155 : decode cX6_read 155 = .ok (.ifCond .ne 26, 3) := by decide +kernel
theorem dX6_read_158 : decode cX6_read 158 = .ok (.iload_n 1, 1) := by decide +kernel
theorem dX6_read_159 : decode cX6_read 159 = .ok (.ifCond .ne 22, 3) := by decide +kernel
theorem dX6_read_162 : decode cX6_read 162 = .ok (.aload_n 0, 1) := by decide +kernel
theorem dX6_read_163 : decode cX6_read 163 = .ok (.getfield 12, 3) := by decide +kernel
theorem dX6_read_166 : decode cX6_read 166 = .ok (.invokevirtual 76, 3) := by decide +kernel
theorem dX6_read_169 : decode cX6_read 169 = .ok (.ifCond .ne 12, 3) := by decide +kernel
theorem dX6_read_172 : decode cX6_read 172 = .ok (.aload_n 0, 1) := by decide +kernel
theorem dX6_read_173 : decode cX6_read 173 = .ok (.iconst 4, 1) := by decide +kernel
theorem dX6_read_174 : decode cX6_read 174 = .ok (.aload_n 0, 1) := by decide +kernel
theorem dX6_read_175 : decode cX6_read 175 = .ok (.getfield 35, 3) := by decide +kernel
theorem dX6_read_178 : decode cX6_read 178 = .ok (.invokevirtual 79, 3) := by decide +kernel
theorem dX6_read_181 : decode cX6_read 181 = .ok (.return_, 1) := by decide +kernel
theorem dX6_readBoardLine_0 : decode cX6_readBoardLine 0 = .ok (.aload_n 0, 1) := by decide +kernel
theorem dX6_readBoardLine_1 : decode cX6_readBoardLine 1 = .ok (.ldc 83, 2) := by decide +kernel
theorem dX6_readBoardLine_3 : decode cX6_readBoardLine 3 = .ok (.invokevirtual 85, 3) := by decide +kernel
theorem dX6_readBoardLine_6 : decode cX6_readBoardLine 6 = .ok (.ifCond .eq 27, 3) := by decide +kernel
theorem dX6_readBoardLine_9 : decode cX6_readBoardLine 9 = .ok (.aload_n 0, 1) := by decide +kernel
theorem dX6_readBoardLine_10 : decode cX6_readBoardLine 10 = .ok (.invokevirtual 54, 3) := by decide +kernel
theorem dX6_readBoardLine_13 : decode cX6_readBoardLine 13 = .ok (.aload_n 0, 1) := by decide +kernel
theorem dX6_readBoardLine_14 : decode cX6_readBoardLine 14 = .ok (.invokevirtual 89, 3) := by decide +kernel
theorem dX6_readBoardLine_17 : decode cX6_readBoardLine 17 = .ok (.ifCond .eq 14, 3) := by decide +kernel
theorem dX6_readBoardLine_20 : decode cX6_readBoardLine 20 = .ok (.aload_n 0, 1) := by decide +kernel
theorem dX6_readBoardLine_21 : decode cX6_readBoardLine 21 = .ok (.invokevirtual 92, 3) := by decide +kernel
theorem dX6_readBoardLine_24 : decode cX6_readBoardLine 24 = .ok (.ifCond .eq 7, 3) := by decide +kernel
theorem dX6_readBoardLine_27 : decode cX6_readBoardLine 27 = .ok (.iconst 1, 1) := by decide +kernel
theorem dX6_readBoardLine_28 : decode cX6_readBoardLine 28 = .ok (.goto 4, 3) := by decide +kernel
theorem dX6_readBoardLine_31 : decode cX6_readBoardLine 31 = .ok (.iconst 0, 1) := by decide +kernel
theorem dX6_readBoardLine_32 : decode cX6_readBoardLine 32 = .ok (.ireturn, 1) := by decide +kernel
theorem dX6_readBoardLine_33 : decode cX6_readBoardLine 33 = .ok (.aload_n 0, 1) := by decide +kernel
theorem dX6_readBoardLine_34 : decode cX6_readBoardLine 34 = .ok (.ldc 95, 2) := by decide +kernel
theorem dX6_readBoardLine_36 : decode cX6_readBoardLine 36 = .ok (.invokevirtual 85, 3) := by decide +kernel
theorem dX6_readBoardLine_39 : decode cX6_readBoardLine 39 = .ok (.ifCond .eq 48, 3) := by decide +kernel
theorem dX6_readBoardLine_42 : decode cX6_readBoardLine 42 = .ok (.aload_n 0, 1) := by decide +kernel
theorem dX6_readBoardLine_43 : decode cX6_readBoardLine 43 = .ok (.getfield 12, 3) := by decide +kernel
theorem dX6_readBoardLine_46 : decode cX6_readBoardLine 46 = .ok (.getfield 97, 3) := by decide +kernel
theorem dX6_readBoardLine_49 : decode cX6_readBoardLine 49 = .ok (.bipush 6, 2) := by decide +kernel
theorem dX6_readBoardLine_51 : decode cX6_readBoardLine 51 = .ok (.if_icmp .ne 12, 3) := by decide +kernel
theorem dX6_readBoardLine_54 : decode cX6_readBoardLine 54 = .ok (.aload_n 0, 1) := by decide +kernel
theorem dX6_readBoardLine_55 : decode cX6_readBoardLine 55 = .ok (.iconst 3, 1) := by decide +kernel
theorem dX6_readBoardLine_56 : decode cX6_readBoardLine 56 = .ok (.aload_n 0, 1) := by decide +kernel
theorem dX6_readBoardLine_57 : decode cX6_readBoardLine 57 = .ok (.getfield 73, 3) := by decide +kernel
theorem dX6_readBoardLine_60 : decode cX6_readBoardLine 60 = .ok (.invokevirtual 79, 3) := by decide +kernel
theorem dX6_readBoardLine_63 : decode cX6_readBoardLine 63 = .ok (.aload_n 0, 1) := by decide +kernel
theorem dX6_readBoardLine_64 : decode cX6_readBoardLine 64 = .ok (.invokevirtual 54, 3) := by decide +kernel
theorem dX6_readBoardLine_67 : decode cX6_readBoardLine 67 = .ok (.aload_n 0, 1) := by decide +kernel
theorem dX6_readBoardLine_68 : decode cX6_readBoardLine 68 = .ok (.invokevirtual 100, 3) := by decide +kernel
theorem dX6_readBoardLine_71 : decode cX6_readBoardLine 71 = .ok (.ifCond .eq 14, 3) := by decide +kernel
theorem dX6_readBoardLine_74 : decode cX6_readBoardLine 74 = .ok (.aload_n 0, 1) := by decide +kernel
theorem dX6_readBoardLine_75 : decode cX6_readBoardLine 75 = .ok (.invokevirtual 92, 3) := by decide +kernel
theorem dX6_readBoardLine_78 : decode cX6_readBoardLine 78 = .ok (.ifCond .eq 7, 3) := by decide +kernel
theorem dX6_readBoardLine_81 : decode cX6_readBoardLine 81 = .ok (.iconst 1, 1) := by decide +kernel
theorem dX6_readBoardLine_82 : decode cX6_readBoardLine 82 = .ok (.goto 4, 3) := by decide +kernel
theorem dX6_readBoardLine_85 : decode cX6_readBoardLine 85 = .ok (.iconst 0, 1) := by decide +kernel
theorem dX6_readBoardLine_86 : decode cX6_readBoardLine 86 = .ok (.ireturn, 1) := by decide +kernel
theorem dX6_readBoardLine_87 : decode cX6_readBoardLine 87 = .ok (.aload_n 0, 1) := by decide +kernel
theorem dX6_readBoardLine_88 : decode cX6_readBoardLine 88 = .ok (.ldc 103, 2) := by decide +kernel
theorem dX6_readBoardLine_90 : decode cX6_readBoardLine 90 = .ok (.invokevirtual 85, 3) := by decide +kernel
theorem dX6_readBoardLine_93 : decode cX6_readBoardLine 93 = .ok (.ifCond .eq 44, 3) := by decide +kernel
theorem dX6_readBoardLine_96 : decode cX6_readBoardLine 96 = .ok (.aload_n 0, 1) := by decide +kernel
theorem dX6_readBoardLine_97 : decode cX6_readBoardLine 97 = .ok (.invokevirtual 54, 3) := by decide +kernel
theorem dX6_readBoardLine_100 : decode cX6_readBoardLine 100 = .ok (.aload_n 0, 1) := by decide +kernel
theorem dX6_readBoardLine_101 : decode cX6_readBoardLine 101 = .ok (.invokevirtual 105, 3) := by decide +kernel
theorem dX6_readBoardLine_104 : decode cX6_readBoardLine 104 = .ok (.lstore_n 1, 1) := by decide +kernel
theorem dX6_readBoardLine_105 : decode cX6_readBoardLine 105 = .ok (.aload_n 0, 1) := by decide +kernel
theorem dX6_readBoardLine_106 : decode cX6_readBoardLine 106 = .ok (.getfield 12, 3) := by decide +kernel
theorem dX6_readBoardLine_109 : decode cX6_readBoardLine 109 = .ok (.dup, 1) := by decide +kernel
theorem dX6_readBoardLine_110 : decode cX6_readBoardLine 110 = .ok (.getfield 109, 3) := by decide +kernel
theorem dX6_readBoardLine_113 : decode cX6_readBoardLine 113 = .ok (.lload_n 1, 1) := by decide +kernel
theorem dX6_readBoardLine_114 : decode cX6_readBoardLine 114 = .ok (.lor, 1) := by decide +kernel
theorem dX6_readBoardLine_115 : decode cX6_readBoardLine 115 = .ok (.putfield 109, 3) := by decide +kernel
theorem dX6_readBoardLine_118 : decode cX6_readBoardLine 118 = .ok (.lload_n 1, 1) := by decide +kernel
theorem dX6_readBoardLine_119 : decode cX6_readBoardLine 119 = .ok (.lconst 0, 1) := by decide +kernel
theorem dX6_readBoardLine_120 : decode cX6_readBoardLine 120 = .ok (.lcmp, 1) := by decide +kernel
theorem dX6_readBoardLine_121 : decode cX6_readBoardLine 121 = .ok (.ifCond .eq 14, 3) := by decide +kernel
theorem dX6_readBoardLine_124 : decode cX6_readBoardLine 124 = .ok (.aload_n 0, 1) := by decide +kernel
theorem dX6_readBoardLine_125 : decode cX6_readBoardLine 125 = .ok (.invokevirtual 92, 3) := by decide +kernel
theorem dX6_readBoardLine_128 : decode cX6_readBoardLine 128 = .ok (.ifCond .eq 7, 3) := by decide +kernel
theorem dX6_readBoardLine_131 : decode cX6_readBoardLine 131 = .ok (.iconst 1, 1) := by decide +kernel
theorem dX6_readBoardLine_132 : decode cX6_readBoardLine 132 = .ok (.goto 4, 3) := by decide +kernel
theorem dX6_readBoardLine_135 : decode cX6_readBoardLine 135 = .ok (.iconst 0, 1) := by decide +kernel
theorem dX6_readBoardLine_136 : decode cX6_readBoardLine 136 = .ok (.ireturn, 1) := by decide +kernel
theorem dX6_readBoardLine_137 : decode cX6_readBoardLine 137 = .ok (.aload_n 0, 1) := by decide +kernel
theorem dX6_readBoardLine_138 : decode cX6_readBoardLine 138 = .ok (.ldc 113, 2) := by decide +kernel
theorem dX6_readBoardLine_140 : decode cX6_readBoardLine 140 = .ok (.invokevirtual 85, 3) := by decide +kernel
theorem dX6_readBoardLine_143 : decode cX6_readBoardLine 143 = .ok (.ifCond .eq 44, 3) := by decide +kernel
theorem dX6_readBoardLine_146 : decode cX6_readBoardLine 146 = .ok (.aload_n 0, 1) := by decide +kernel
theorem dX6_readBoardLine_147 : decode cX6_readBoardLine 147 = .ok (.invokevirtual 54, 3) := by decide +kernel
theorem dX6_readBoardLine_150 : decode cX6_readBoardLine 150 = .ok (.aload_n 0, 1) := by decide +kernel
theorem dX6_readBoardLine_151 : decode cX6_readBoardLine 151 = .ok (.invokevirtual 105, 3) := by decide +kernel
theorem dX6_readBoardLine_154 : decode cX6_readBoardLine 154 = .ok (.lstore_n 1, 1) := by decide +kernel
theorem dX6_readBoardLine_155 : decode cX6_readBoardLine 155 = .ok (.aload_n 0, 1) := by decide +kernel
theorem dX6_readBoardLine_156 : decode cX6_readBoardLine 156 = .ok (.getfield 12, 3) := by decide +kernel
theorem dX6_readBoardLine_159 : decode cX6_readBoardLine 159 = .ok (.dup, 1) := by decide +kernel
theorem dX6_readBoardLine_160 : decode cX6_readBoardLine 160 = .ok (.getfield 115, 3) := by decide +kernel
theorem dX6_readBoardLine_163 : decode cX6_readBoardLine 163 = .ok (.lload_n 1, 1) := by decide +kernel
theorem dX6_readBoardLine_164 : decode cX6_readBoardLine 164 = .ok (.lor, 1) := by decide +kernel
theorem dX6_readBoardLine_165 : decode cX6_readBoardLine 165 = .ok (.putfield 115, 3) := by decide +kernel
theorem dX6_readBoardLine_168 : decode cX6_readBoardLine 168 = .ok (.lload_n 1, 1) := by decide +kernel
theorem dX6_readBoardLine_169 : decode cX6_readBoardLine 169 = .ok (.lconst 0, 1) := by decide +kernel
theorem dX6_readBoardLine_170 : decode cX6_readBoardLine 170 = .ok (.lcmp, 1) := by decide +kernel
theorem dX6_readBoardLine_171 : decode cX6_readBoardLine 171 = .ok (.ifCond .eq 14, 3) := by decide +kernel
theorem dX6_readBoardLine_174 : decode cX6_readBoardLine 174 = .ok (.aload_n 0, 1) := by decide +kernel
theorem dX6_readBoardLine_175 : decode cX6_readBoardLine 175 = .ok (.invokevirtual 92, 3) := by decide +kernel
theorem dX6_readBoardLine_178 : decode cX6_readBoardLine 178 = .ok (.ifCond .eq 7, 3) := by decide +kernel
theorem dX6_readBoardLine_181 : decode cX6_readBoardLine 181 = .ok (.iconst 1, 1) := by decide +kernel
theorem dX6_readBoardLine_182 : decode cX6_readBoardLine 182 = .ok (.goto 4, 3) := by decide +kernel
theorem dX6_readBoardLine_185 : decode cX6_readBoardLine 185 = .ok (.iconst 0, 1) := by decide +kernel
theorem dX6_readBoardLine_186 : decode cX6_readBoardLine 186 = .ok (.ireturn, 1) := by decide +kernel
theorem dX6_readBoardLine_187 : decode cX6_readBoardLine 187 = .ok (.iconst 0, 1) := by decide +kernel
theorem dX6_readBoardLine_188 : decode cX6_readBoardLine 188 = .ok (.ireturn, 1) := by decide +kernel
theorem dX6_readSize_0 : decode cX6_readSize 0 = .ok (.aload_n 0, 1) := by decide +kernel
theorem dX6_readSize_1 : decode cX6_readSize 1 = .ok (.iconst 2, 1) := by decide +kernel
theorem dX6_readSize_2 : decode cX6_readSize 2 = .ok (.bipush 6, 2) := by decide +kernel
theorem dX6_readSize_4 : decode cX6_readSize 4 = .ok (.invokevirtual 118, 3) := by decide +kernel
theorem dX6_readSize_7 : decode cX6_readSize 7 = .ok (.istore_n 1, 1) := by decide +kernel
theorem dX6_readSize_8 : decode cX6_readSize 8 = .ok (.aload_n 0, 1) := by decide +kernel
theorem dX6_readSize_9 : decode cX6_readSize 9 = .ok (.iconst 2, 1) := by decide +kernel
theorem dX6_readSize_10 : decode cX6_readSize 10 = .ok (.bipush 6, 2) := by decide +kernel
theorem dX6_readSize_12 : decode cX6_readSize 12 = .ok (.invokevirtual 118, 3) := by decide +kernel
theorem dX6_readSize_15 : decode cX6_readSize 15 = .ok (.istore_n 2, 1) := by decide +kernel
theorem dX6_readSize_16 : decode cX6_readSize 16 = .ok (.aload_n 0, 1) := by decide +kernel
theorem dX6_readSize_17 : decode cX6_readSize 17 = .ok (.getfield 12, 3) := by decide +kernel
theorem dX6_readSize_20 : decode cX6_readSize 20 = .ok (.iload_n 1, 1) := by decide +kernel
theorem dX6_readSize_21 : decode cX6_readSize 21 = .ok (.putfield 121, 3) := by decide +kernel
theorem dX6_readSize_24 : decode cX6_readSize 24 = .ok (.aload_n 0, 1) := by decide +kernel
theorem dX6_readSize_25 : decode cX6_readSize 25 = .ok (.getfield 12, 3) := by decide +kernel
theorem dX6_readSize_28 : decode cX6_readSize 28 = .ok (.iload_n 2, 1) := by decide +kernel
theorem dX6_readSize_29 : decode cX6_readSize 29 = .ok (.putfield 124, 3) := by decide +kernel
theorem dX6_readSize_32 : decode cX6_readSize 32 = .ok (.iload_n 1, 1) := by decide +kernel
theorem dX6_readSize_33 : decode cX6_readSize 33 = .ok (.iconst (-1), 1) := by decide +kernel
theorem dX6_readSize_34 : decode cX6_readSize 34 = .ok (.if_icmp .eq 12, 3) := by decide +kernel
theorem dX6_readSize_37 : decode cX6_readSize 37 = .ok (.iload_n 2, 1) := by decide +kernel
theorem dX6_readSize_38 : decode cX6_readSize 38 = .ok (.iconst (-1), 1) := by decide +kernel
theorem dX6_readSize_39 : decode cX6_readSize 39 = .ok (.if_icmp .eq 7, 3) := by decide +kernel
theorem dX6_readSize_42 : decode cX6_readSize 42 = .ok (.iconst 1, 1) := by decide +kernel
theorem dX6_readSize_43 : decode cX6_readSize 43 = .ok (.goto 4, 3) := by decide +kernel
theorem dX6_readSize_46 : decode cX6_readSize 46 = .ok (.iconst 0, 1) := by decide +kernel
theorem dX6_readSize_47 : decode cX6_readSize 47 = .ok (.ireturn, 1) := by decide +kernel
theorem dX6_readMan_0 : decode cX6_readMan 0 = .ok (.aload_n 0, 1) := by decide +kernel
theorem dX6_readMan_1 : decode cX6_readMan 1 = .ok (.iconst 0, 1) := by decide +kernel
theorem dX6_readMan_2 : decode cX6_readMan 2 = .ok (.iconst 1, 1) := by decide +kernel
theorem dX6_readMan_3 : decode cX6_readMan 3 = .ok (.invokevirtual 118, 3) := by decide +kernel
theorem dX6_readMan_6 : decode cX6_readMan 6 = .ok (.istore_n 1, 1) := by decide +kernel
theorem dX6_readMan_7 : decode cX6_readMan 7 = .ok (.aload_n 0, 1) := by decide +kernel
theorem dX6_readMan_8 : decode cX6_readMan 8 = .ok (.iconst 0, 1) := by decide +kernel
theorem dX6_readMan_9 : decode cX6_readMan 9 = .ok (.bipush 35, 2) := by decide +kernel
theorem dX6_readMan_11 : decode cX6_readMan 11 = .ok (.invokevirtual 118, 3) := by decide +kernel
theorem dX6_readMan_14 : decode cX6_readMan 14 = .ok (.istore_n 2, 1) := by decide +kernel
theorem dX6_readMan_15 : decode cX6_readMan 15 = .ok (.aload_n 0, 1) := by decide +kernel
theorem dX6_readMan_16 : decode cX6_readMan 16 = .ok (.getfield 12, 3) := by decide +kernel
theorem dX6_readMan_19 : decode cX6_readMan 19 = .ok (.iload_n 1, 1) := by decide +kernel
theorem dX6_readMan_20 : decode cX6_readMan 20 = .ok (.iload_n 2, 1) := by decide +kernel
theorem dX6_readMan_21 : decode cX6_readMan 21 = .ok (.invokevirtual 127, 3) := by decide +kernel
theorem dX6_readMan_24 : decode cX6_readMan 24 = .ok (.iload_n 1, 1) := by decide +kernel
theorem dX6_readMan_25 : decode cX6_readMan 25 = .ok (.iconst (-1), 1) := by decide +kernel
theorem dX6_readMan_26 : decode cX6_readMan 26 = .ok (.if_icmp .eq 12, 3) := by decide +kernel
theorem dX6_readMan_29 : decode cX6_readMan 29 = .ok (.iload_n 2, 1) := by decide +kernel
theorem dX6_readMan_30 : decode cX6_readMan 30 = .ok (.iconst (-1), 1) := by decide +kernel
theorem dX6_readMan_31 : decode cX6_readMan 31 = .ok (.if_icmp .eq 7, 3) := by decide +kernel
theorem dX6_readMan_34 : decode cX6_readMan 34 = .ok (.iconst 1, 1) := by decide +kernel
theorem dX6_readMan_35 : decode cX6_readMan 35 = .ok (.goto 4, 3) := by decide +kernel
theorem dX6_readMan_38 : decode cX6_readMan 38 = .ok (.iconst 0, 1) := by decide +kernel
theorem dX6_readMan_39 : decode cX6_readMan 39 = .ok (.ireturn, 1) := by decide +kernel
theorem dX6_readFields_0 : decode cX6_readFields 0 = .ok (.lconst 0, 1) := by decide +kernel
theorem dX6_readFields_1 : decode cX6_readFields 1 = .ok (.lstore_n 1, 1) := by decide +kernel
theorem dX6_readFields_2 : decode cX6_readFields 2 = .ok (.iconst 0, 1) := by decide +kernel
theorem dX6_readFields_3 : decode cX6_readFields 3 = .ok (.istore_n 3, 1) := by decide +kernel
theorem dX6_readFields_4 : decode cX6_readFields 4 = .ok (.iload_n 3, 1) := by decide +kernel
theorem dX6_readFields_5 : decode cX6_readFields 5 = .ok (.sipush 600, 3) := by decide +kernel
theorem dX6_readFields_8 : decode cX6_readFields 8 = .ok (.if_icmp .ge 30, 3) := by decide +kernel
theorem dX6_readFields_11 : decode cX6_readFields 11 = .ok (.aload_n 0, 1) := by decide +kernel
theorem dX6_readFields_12 : decode cX6_readFields 12 = .ok (.getfield 61, 3) := by decide +kernel
theorem dX6_readFields_15 : decode cX6_readFields 15 = .ok (.iconst 2, 1) := by decide +kernel
theorem dX6_readFields_16 : decode cX6_readFields 16 = .ok (.if_icmp .ne 22, 3) := by decide +kernel
theorem dX6_readFields_19 : decode cX6_readFields 19 = .ok (.lload_n 1, 1) := by decide +kernel
theorem dX6_readFields_20 : decode cX6_readFields 20 = .ok (.aload_n 0, 1) := by decide +kernel
theorem dX6_readFields_21 : decode cX6_readFields 21 = .ok (.iconst 0, 1) := by decide +kernel
theorem dX6_readFields_22 : decode cX6_readFields 22 = .ok (.bipush 35, 2) := by decide +kernel
theorem dX6_readFields_24 : decode cX6_readFields 24 = .ok (.invokevirtual 118, 3) := by decide +kernel
theorem dX6_readFields_27 : decode cX6_readFields 27 = .ok (.invokestatic 130, 3) := by decide +kernel
theorem dX6_readFields_30 : decode cX6_readFields 30 = .ok (.lor, 1) := by decide +kernel
theorem dX6_readFields_31 : decode cX6_readFields 31 = .ok (.lstore_n 1, 1) := by decide +kernel
theorem dX6_readFields_32 : decode cX6_readFields 32 = .ok (.iinc 3 1, 3) := by decide +kernel
theorem dX6_readFields_35 : decode cX6_readFields 35 = .ok (.goto (-31), 3) := by decide +kernel
theorem dX6_readFields_38 : decode cX6_readFields 38 = .ok (.lload_n 1, 1) := by decide +kernel
theorem dX6_readFields_39 : decode cX6_readFields 39 = .ok (.lreturn, 1) := by decide +kernel
theorem dX6_readGameLine_0 : decode cX6_readGameLine 0 = .ok (.aload_n 0, 1) := by decide +kernel
theorem dX6_readGameLine_1 : decode cX6_readGameLine 1 = .ok (.ldc 134, 2) := by decide +kernel
theorem dX6_readGameLine_3 : decode cX6_readGameLine 3 = .ok (.invokevirtual 85, 3) := by decide +kernel
theorem dX6_readGameLine_6 : decode cX6_readGameLine 6 = .ok (.ifCond .ne 5, 3) := by decide +kernel
theorem dX6_readGameLine_9 : decode cX6_readGameLine 9 = .ok (.iconst 0, 1) := by decide +kernel
theorem dX6_readGameLine_10 : decode cX6_readGameLine 10 = .ok (.ireturn, 1) := by decide +kernel
theorem dX6_readGameLine_11 : decode cX6_readGameLine 11 = .ok (.aload_n 0, 1) := by decide +kernel
theorem dX6_readGameLine_12 : decode cX6_readGameLine 12 = .ok (.getfield 21, 3) := by decide +kernel
theorem dX6_readGameLine_15 : decode cX6_readGameLine 15 = .ok (.getfield 51, 3) := by decide +kernel
theorem dX6_readGameLine_18 : decode cX6_readGameLine 18 = .ok (.bipush 30, 2) := by decide +kernel
theorem dX6_readGameLine_20 : decode cX6_readGameLine 20 = .ok (.if_icmp .ne 12, 3) := by decide +kernel
theorem dX6_readGameLine_23 : decode cX6_readGameLine 23 = .ok (.aload_n 0, 1) := by decide +kernel
theorem dX6_readGameLine_24 : decode cX6_readGameLine 24 = .ok (.iconst 3, 1) := by decide +kernel
theorem dX6_readGameLine_25 : decode cX6_readGameLine 25 = .ok (.aload_n 0, 1) := by decide +kernel
theorem dX6_readGameLine_26 : decode cX6_readGameLine 26 = .ok (.getfield 73, 3) := by decide +kernel
theorem dX6_readGameLine_29 : decode cX6_readGameLine 29 = .ok (.invokevirtual 79, 3) := by decide +kernel
theorem dX6_readGameLine_32 : decode cX6_readGameLine 32 = .ok (.aload_n 0, 1) := by decide +kernel
theorem dX6_readGameLine_33 : decode cX6_readGameLine 33 = .ok (.invokevirtual 54, 3) := by decide +kernel
theorem dX6_readGameLine_36 : decode cX6_readGameLine 36 = .ok (.aload_n 0, 1) := by decide +kernel
theorem dX6_readGameLine_37 : decode cX6_readGameLine 37 = .ok (.invokevirtual 57, 3) := by decide +kernel
theorem dX6_readGameLine_40 : decode cX6_readGameLine 40 = .ok (.ifCond .ne 5, 3) := by decide +kernel
theorem dX6_readGameLine_43 : decode cX6_readGameLine 43 = .ok (.iconst 0, 1) := by decide +kernel
theorem dX6_readGameLine_44 : decode cX6_readGameLine 44 = .ok (.ireturn, 1) := by decide +kernel
theorem dX6_readGameLine_45 : decode cX6_readGameLine 45 = .ok (.iconst (-1), 1) := by decide +kernel
theorem dX6_readGameLine_46 : decode cX6_readGameLine 46 = .ok (.istore_n 1, 1) := by decide +kernel
theorem dX6_readGameLine_47 : decode cX6_readGameLine 47 = .ok (.aload_n 0, 1) := by decide +kernel
theorem dX6_readGameLine_48 : decode cX6_readGameLine 48 = .ok (.ldc 136, 2) := by decide +kernel
theorem dX6_readGameLine_50 : decode cX6_readGameLine 50 = .ok (.invokevirtual 85, 3) := by decide +kernel
theorem dX6_readGameLine_53 : decode cX6_readGameLine 53 = .ok (.ifCond .eq 22, 3) := by decide +kernel
theorem dX6_readGameLine_56 : decode cX6_readGameLine 56 = .ok (.aload_n 0, 1) := by decide +kernel
theorem dX6_readGameLine_57 : decode cX6_readGameLine 57 = .ok (.invokevirtual 54, 3) := by decide +kernel
theorem dX6_readGameLine_60 : decode cX6_readGameLine 60 = .ok (.aload_n 0, 1) := by decide +kernel
theorem dX6_readGameLine_61 : decode cX6_readGameLine 61 = .ok (.iconst 0, 1) := by decide +kernel
theorem dX6_readGameLine_62 : decode cX6_readGameLine 62 = .ok (.bipush 35, 2) := by decide +kernel
theorem dX6_readGameLine_64 : decode cX6_readGameLine 64 = .ok (.invokevirtual 118, 3) := by decide +kernel
theorem dX6_readGameLine_67 : decode cX6_readGameLine 67 = .ok (.istore_n 1, 1) := by decide +kernel
theorem dX6_readGameLine_68 : decode cX6_readGameLine 68 = .ok (.iload_n 1, 1) := by decide +kernel
theorem dX6_readGameLine_69 : decode cX6_readGameLine 69 = .ok (.iconst (-1), 1) := by decide +kernel
theorem dX6_readGameLine_70 : decode cX6_readGameLine 70 = .ok (.if_icmp .ne 5, 3) := by decide +kernel
theorem dX6_readGameLine_73 : decode cX6_readGameLine 73 = .ok (.iconst 0, 1) := by decide +kernel
theorem dX6_readGameLine_74 : decode cX6_readGameLine 74 = .ok (.ireturn, 1) := by decide +kernel
theorem dX6_readGameLine_75 : decode cX6_readGameLine 75 = .ok (.aload_n 0, 1) := by decide +kernel
theorem dX6_readGameLine_76 : decode cX6_readGameLine 76 = .ok (.getfield 21, 3) := by decide +kernel
theorem dX6_readGameLine_79 : decode cX6_readGameLine 79 = .ok (.aload_n 0, 1) := by decide +kernel
theorem dX6_readGameLine_80 : decode cX6_readGameLine 80 = .ok (.getfield 138, 3) := by decide +kernel
theorem dX6_readGameLine_83 : decode cX6_readGameLine 83 = .ok (.iload_n 1, 1) := by decide +kernel
theorem dX6_readGameLine_84 : decode cX6_readGameLine 84 = .ok (.invokevirtual 141, 3) := by decide +kernel
theorem dX6_readGameLine_87 : decode cX6_readGameLine 87 = .ok (.aload_n 0, 1) := by decide +kernel
theorem dX6_readGameLine_88 : decode cX6_readGameLine 88 = .ok (.invokevirtual 92, 3) := by decide +kernel
theorem dX6_readGameLine_91 : decode cX6_readGameLine 91 = .ok (.ireturn, 1) := by decide +kernel
theorem dX6_takeRule_0 : decode cX6_takeRule 0 = .ok (.aload_n 0, 1) := by decide +kernel
theorem dX6_takeRule_1 : decode cX6_takeRule 1 = .ok (.getfield 61, 3) := by decide +kernel
theorem dX6_takeRule_4 : decode cX6_takeRule 4 = .ok (.iconst 1, 1) := by decide +kernel
theorem dX6_takeRule_5 : decode cX6_takeRule 5 = .ok (.if_icmp .ne 17, 3) := by decide +kernel
theorem dX6_takeRule_8 : decode cX6_takeRule 8 = .ok (.aload_n 0, 1) := by decide +kernel
theorem dX6_takeRule_9 : decode cX6_takeRule 9 = .ok (.getfield 39, 3) := by decide +kernel
theorem dX6_takeRule_12 : decode cX6_takeRule 12 = .ok (.aload_n 0, 1) := by decide +kernel
theorem dX6_takeRule_13 : decode cX6_takeRule 13 = .ok (.getfield 73, 3) := by decide +kernel
theorem dX6_takeRule_16 : decode cX6_takeRule 16 = .ok (.isub, 1) := by decide +kernel
theorem dX6_takeRule_17 : decode cX6_takeRule 17 = .ok (.bipush 9, 2) := by decide +kernel
theorem dX6_takeRule_19 : decode cX6_takeRule 19 = .ok (.if_icmp .le 5, 3) := by decide +kernel
theorem dX6_takeRule_22 : decode cX6_takeRule 22 = .ok (.iconst 0, 1) := by decide +kernel
theorem dX6_takeRule_23 : decode cX6_takeRule 23 = .ok (.ireturn, 1) := by decide +kernel
theorem dX6_takeRule_24 : decode cX6_takeRule 24 = .ok (.lconst 0, 1) := by decide +kernel
theorem dX6_takeRule_25 : decode cX6_takeRule 25 = .ok (.lstore_n 1, 1) := by decide +kernel
theorem dX6_takeRule_26 : decode cX6_takeRule 26 = .ok (.iconst 0, 1) := by decide +kernel
theorem dX6_takeRule_27 : decode cX6_takeRule 27 = .ok (.istore_n 3, 1) := by decide +kernel
theorem dX6_takeRule_28 : decode cX6_takeRule 28 = .ok (.aload_n 0, 1) := by decide +kernel
theorem dX6_takeRule_29 : decode cX6_takeRule 29 = .ok (.getfield 73, 3) := by decide +kernel
theorem dX6_takeRule_32 : decode cX6_takeRule 32 = .ok (.istore 4, 2) := by decide +kernel
theorem dX6_takeRule_34 : decode cX6_takeRule 34 = .ok (.iload 4, 2) := by decide +kernel
theorem dX6_takeRule_36 : decode cX6_takeRule 36 = .ok (.aload_n 0, 1) := by decide +kernel
theorem dX6_takeRule_37 : decode cX6_takeRule 37 = .ok (.getfield 39, 3) := by decide +kernel
theorem dX6_takeRule_40 : decode cX6_takeRule 40 = .ok (.if_icmp .ge 66, 3) := by decide +kernel
theorem dX6_takeRule_43 : decode cX6_takeRule 43 = .ok (.ldc 145, 2) := by decide +kernel
theorem dX6_takeRule_45 : decode cX6_takeRule 45 = .ok (.aload_n 0, 1) := by decide +kernel
theorem dX6_takeRule_46 : decode cX6_takeRule 46 = .ok (.getfield 25, 3) := by decide +kernel
theorem dX6_takeRule_49 : decode cX6_takeRule 49 = .ok (.iload 4, 2) := by decide +kernel
theorem dX6_takeRule_51 : decode cX6_takeRule 51 = .ok (.iaload, 1) := by decide +kernel
theorem dX6_takeRule_52 : decode cX6_takeRule 52 = .ok (.i2c, 1) := by decide +kernel
theorem dX6_takeRule_53 : decode cX6_takeRule 53 = .ok (.invokevirtual 147, 3) := by decide +kernel
theorem dX6_takeRule_56 : decode cX6_takeRule 56 = .ok (.istore 5, 2) := by decide +kernel
theorem dX6_takeRule_58 : decode cX6_takeRule 58 = .ok (.iload 5, 2) := by decide +kernel
theorem dX6_takeRule_60 : decode cX6_takeRule 60 = .ok (.ifCond .lt 14, 3) := by decide +kernel
theorem dX6_takeRule_63 : decode cX6_takeRule 63 = .ok (.iload 5, 2) := by decide +kernel
theorem dX6_takeRule_65 : decode cX6_takeRule 65 = .ok (.bipush 10, 2) := by decide +kernel
theorem dX6_takeRule_67 : decode cX6_takeRule 67 = .ok (.if_icmp .ne 9, 3) := by decide +kernel
theorem dX6_takeRule_70 : decode cX6_takeRule 70 = .ok (.iload_n 3, 1) := by decide +kernel
theorem dX6_takeRule_71 : decode cX6_takeRule 71 = .ok (.ifCond .eq 5, 3) := by decide +kernel
theorem dX6_takeRule_74 : decode cX6_takeRule 74 = .ok (.iconst 0, 1) := by decide +kernel
theorem dX6_takeRule_75 : decode cX6_takeRule 75 = .ok (.ireturn, 1) := by decide +kernel
theorem dX6_takeRule_76 : decode cX6_takeRule 76 = .ok (.iload_n 3, 1) := by decide +kernel
theorem dX6_takeRule_77 : decode cX6_takeRule 77 = .ok (.ifCond .ne 10, 3) := by decide +kernel
theorem dX6_takeRule_80 : decode cX6_takeRule 80 = .ok (.iload 5, 2) := by decide +kernel
theorem dX6_takeRule_82 : decode cX6_takeRule 82 = .ok (.bipush 10, 2) := by decide +kernel
theorem dX6_takeRule_84 : decode cX6_takeRule 84 = .ok (.if_icmp .ne 7, 3) := by decide +kernel
theorem dX6_takeRule_87 : decode cX6_takeRule 87 = .ok (.iconst 1, 1) := by decide +kernel
theorem dX6_takeRule_88 : decode cX6_takeRule 88 = .ok (.goto 4, 3) := by decide +kernel
theorem dX6_takeRule_91 : decode cX6_takeRule 91 = .ok (.iconst 0, 1) := by decide +kernel
theorem dX6_takeRule_92 : decode cX6_takeRule 92 = .ok (.istore_n 3, 1) := by decide +kernel
theorem dX6_takeRule_93 : decode cX6_takeRule 93 = .ok (.lload_n 1, 1) := by decide +kernel
theorem dX6_takeRule_94 : decode cX6_takeRule 94 = .ok (.iload 5, 2) := by decide +kernel
theorem dX6_takeRule_96 : decode cX6_takeRule 96 = .ok (.invokestatic 153, 3) := by decide +kernel
theorem dX6_takeRule_99 : decode cX6_takeRule 99 = .ok (.lstore_n 1, 1) := by decide +kernel
theorem dX6_takeRule_100 : decode cX6_takeRule 100 = .ok (.iinc 4 1, 3) := by decide +kernel
theorem dX6_takeRule_103 : decode cX6_takeRule 103 = .ok (.goto (-69), 3) := by decide +kernel
theorem dX6_takeRule_106 : decode cX6_takeRule 106 = .ok (.aload_n 0, 1) := by decide +kernel
theorem dX6_takeRule_107 : decode cX6_takeRule 107 = .ok (.lload_n 1, 1) := by decide +kernel
theorem dX6_takeRule_108 : decode cX6_takeRule 108 = .ok (.putfield 138, 3) := by decide +kernel
theorem dX6_takeRule_111 : decode cX6_takeRule 111 = .ok (.aload_n 0, 1) := by decide +kernel
theorem dX6_takeRule_112 : decode cX6_takeRule 112 = .ok (.invokevirtual 54, 3) := by decide +kernel
theorem dX6_takeRule_115 : decode cX6_takeRule 115 = .ok (.iconst 1, 1) := by decide +kernel
theorem dX6_takeRule_116 : decode cX6_takeRule 116 = .ok (.ireturn, 1) := by decide +kernel
theorem dX6_takeNumber_0 : decode cX6_takeNumber 0 = .ok (.aload_n 0, 1) := by decide +kernel
theorem dX6_takeNumber_1 : decode cX6_takeNumber 1 = .ok (.getfield 61, 3) := by decide +kernel
theorem dX6_takeNumber_4 : decode cX6_takeNumber 4 = .ok (.iconst 2, 1) := by decide +kernel
theorem dX6_takeNumber_5 : decode cX6_takeNumber 5 = .ok (.if_icmp .eq 5, 3) := by decide +kernel
theorem dX6_takeNumber_8 : decode cX6_takeNumber 8 = .ok (.iconst (-1), 1) := by decide +kernel
theorem dX6_takeNumber_9 : decode cX6_takeNumber 9 = .ok (.ireturn, 1) := by decide +kernel
theorem dX6_takeNumber_10 : decode cX6_takeNumber 10 = .ok (.aload_n 0, 1) := by decide +kernel
theorem dX6_takeNumber_11 : decode cX6_takeNumber 11 = .ok (.getfield 157, 3) := by decide +kernel
theorem dX6_takeNumber_14 : decode cX6_takeNumber 14 = .ok (.istore_n 3, 1) := by decide +kernel
theorem dX6_takeNumber_15 : decode cX6_takeNumber 15 = .ok (.iload_n 3, 1) := by decide +kernel
theorem dX6_takeNumber_16 : decode cX6_takeNumber 16 = .ok (.iload_n 1, 1) := by decide +kernel
theorem dX6_takeNumber_17 : decode cX6_takeNumber 17 = .ok (.if_icmp .lt 8, 3) := by decide +kernel
theorem dX6_takeNumber_20 : decode cX6_takeNumber 20 = .ok (.iload_n 3, 1) := by decide +kernel
theorem dX6_takeNumber_21 : decode cX6_takeNumber 21 = .ok (.iload_n 2, 1) := by decide +kernel
theorem dX6_takeNumber_22 : decode cX6_takeNumber 22 = .ok (.if_icmp .le 12, 3) := by decide +kernel
theorem dX6_takeNumber_25 : decode cX6_takeNumber 25 = .ok (.aload_n 0, 1) := by decide +kernel
theorem dX6_takeNumber_26 : decode cX6_takeNumber 26 = .ok (.iconst 2, 1) := by decide +kernel
theorem dX6_takeNumber_27 : decode cX6_takeNumber 27 = .ok (.aload_n 0, 1) := by decide +kernel
theorem dX6_takeNumber_28 : decode cX6_takeNumber 28 = .ok (.getfield 73, 3) := by decide +kernel
theorem dX6_takeNumber_31 : decode cX6_takeNumber 31 = .ok (.invokevirtual 79, 3) := by decide +kernel
theorem dX6_takeNumber_34 : decode cX6_takeNumber 34 = .ok (.aload_n 0, 1) := by decide +kernel
theorem dX6_takeNumber_35 : decode cX6_takeNumber 35 = .ok (.invokevirtual 54, 3) := by decide +kernel
theorem dX6_takeNumber_38 : decode cX6_takeNumber 38 = .ok (.iload_n 3, 1) := by decide +kernel
theorem dX6_takeNumber_39 : decode cX6_takeNumber 39 = .ok (.ireturn, 1) := by decide +kernel
theorem dX6_takeMark_0 : decode cX6_takeMark 0 = .ok (.aload_n 0, 1) := by decide +kernel
theorem dX6_takeMark_1 : decode cX6_takeMark 1 = .ok (.getfield 61, 3) := by decide +kernel
theorem dX6_takeMark_4 : decode cX6_takeMark 4 = .ok (.iconst 3, 1) := by decide +kernel
theorem dX6_takeMark_5 : decode cX6_takeMark 5 = .ok (.if_icmp .eq 5, 3) := by decide +kernel
theorem dX6_takeMark_8 : decode cX6_takeMark 8 = .ok (.iconst 0, 1) := by decide +kernel
theorem dX6_takeMark_9 : decode cX6_takeMark 9 = .ok (.ireturn, 1) := by decide +kernel
theorem dX6_takeMark_10 : decode cX6_takeMark 10 = .ok (.aload_n 0, 1) := by decide +kernel
theorem dX6_takeMark_11 : decode cX6_takeMark 11 = .ok (.invokevirtual 54, 3) := by decide +kernel
theorem dX6_takeMark_14 : decode cX6_takeMark 14 = .ok (.iconst 1, 1) := by decide +kernel
theorem dX6_takeMark_15 : decode cX6_takeMark 15 = .ok (.ireturn, 1) := by decide +kernel
theorem dX6_note_0 : decode cX6_note 0 = .ok (.aload_n 0, 1) := by decide +kernel
theorem dX6_note_1 : decode cX6_note 1 = .ok (.getfield 42, 3) := by decide +kernel
theorem dX6_note_4 : decode cX6_note 4 = .ok (.ifCond .ne 13, 3) := by decide +kernel
theorem dX6_note_7 : decode cX6_note 7 = .ok (.aload_n 0, 1) := by decide +kernel
theorem dX6_note_8 : decode cX6_note 8 = .ok (.iload_n 1, 1) := by decide +kernel
theorem dX6_note_9 : decode cX6_note 9 = .ok (.putfield 42, 3) := by decide +kernel
theorem dX6_note_12 : decode cX6_note 12 = .ok (.aload_n 0, 1) := by decide +kernel
theorem dX6_note_13 : decode cX6_note 13 = .ok (.iload_n 2, 1) := by decide +kernel
theorem dX6_note_14 : decode cX6_note 14 = .ok (.putfield 45, 3) := by decide +kernel
theorem dX6_note_17 : decode cX6_note 17 = .ok (.return_, 1) := by decide +kernel
theorem dX6_isWord_0 : decode cX6_isWord 0 = .ok (.aload_n 0, 1) := by decide +kernel
theorem dX6_isWord_1 : decode cX6_isWord 1 = .ok (.getfield 61, 3) := by decide +kernel
theorem dX6_isWord_4 : decode cX6_isWord 4 = .ok (.iconst 1, 1) := by decide +kernel
theorem dX6_isWord_5 : decode cX6_isWord 5 = .ok (.if_icmp .ne 19, 3) := by decide +kernel
theorem dX6_isWord_8 : decode cX6_isWord 8 = .ok (.aload_n 0, 1) := by decide +kernel
theorem dX6_isWord_9 : decode cX6_isWord 9 = .ok (.getfield 39, 3) := by decide +kernel
theorem dX6_isWord_12 : decode cX6_isWord 12 = .ok (.aload_n 0, 1) := by decide +kernel
theorem dX6_isWord_13 : decode cX6_isWord 13 = .ok (.getfield 73, 3) := by decide +kernel
theorem dX6_isWord_16 : decode cX6_isWord 16 = .ok (.isub, 1) := by decide +kernel
theorem dX6_isWord_17 : decode cX6_isWord 17 = .ok (.aload_n 1, 1) := by decide +kernel
theorem dX6_isWord_18 : decode cX6_isWord 18 = .ok (.invokevirtual 160, 3) := by decide +kernel
theorem dX6_isWord_21 : decode cX6_isWord 21 = .ok (.if_icmp .eq 5, 3) := by decide +kernel
theorem dX6_isWord_24 : decode cX6_isWord 24 = .ok (.iconst 0, 1) := by decide +kernel
theorem dX6_isWord_25 : decode cX6_isWord 25 = .ok (.ireturn, 1) := by decide +kernel
theorem dX6_isWord_26 : decode cX6_isWord 26 = .ok (.iconst 0, 1) := by decide +kernel
theorem dX6_isWord_27 : decode cX6_isWord 27 = .ok (.istore_n 2, 1) := by decide +kernel
theorem dX6_isWord_28 : decode cX6_isWord 28 = .ok (.iload_n 2, 1) := by decide +kernel
theorem dX6_isWord_29 : decode cX6_isWord 29 = .ok (.aload_n 1, 1) := by decide +kernel
theorem dX6_isWord_30 : decode cX6_isWord 30 = .ok (.invokevirtual 160, 3) := by decide +kernel
theorem dX6_isWord_33 : decode cX6_isWord 33 = .ok (.if_icmp .ge 30, 3) := by decide +kernel
theorem dX6_isWord_36 : decode cX6_isWord 36 = .ok (.aload_n 0, 1) := by decide +kernel
theorem dX6_isWord_37 : decode cX6_isWord 37 = .ok (.getfield 25, 3) := by decide +kernel
theorem dX6_isWord_40 : decode cX6_isWord 40 = .ok (.aload_n 0, 1) := by decide +kernel
theorem dX6_isWord_41 : decode cX6_isWord 41 = .ok (.getfield 73, 3) := by decide +kernel
theorem dX6_isWord_44 : decode cX6_isWord 44 = .ok (.iload_n 2, 1) := by decide +kernel
theorem dX6_isWord_45 : decode cX6_isWord 45 = .ok (.iadd, 1) := by decide +kernel
theorem dX6_isWord_46 : decode cX6_isWord 46 = .ok (.iaload, 1) := by decide +kernel
theorem dX6_isWord_47 : decode cX6_isWord 47 = .ok (.aload_n 1, 1) := by decide +kernel
theorem dX6_isWord_48 : decode cX6_isWord 48 = .ok (.iload_n 2, 1) := by decide +kernel
theorem dX6_isWord_49 : decode cX6_isWord 49 = .ok (.invokevirtual 163, 3) := by decide +kernel
theorem dX6_isWord_52 : decode cX6_isWord 52 = .ok (.if_icmp .eq 5, 3) := by decide +kernel
theorem dX6_isWord_55 : decode cX6_isWord 55 = .ok (.iconst 0, 1) := by decide +kernel
theorem dX6_isWord_56 : decode cX6_isWord 56 = .ok (.ireturn, 1) := by decide +kernel
theorem dX6_isWord_57 : decode cX6_isWord 57 = .ok (.iinc 2 1, 3) := by decide +kernel
theorem dX6_isWord_60 : decode cX6_isWord 60 = .ok (.goto (-32), 3) := by decide +kernel
theorem dX6_isWord_63 : decode cX6_isWord 63 = .ok (.iconst 1, 1) := by decide +kernel
theorem dX6_isWord_64 : decode cX6_isWord 64 = .ok (.ireturn, 1) := by decide +kernel
theorem dX6_advance_0 : decode cX6_advance 0 = .ok (.aload_n 0, 1) := by decide +kernel
theorem dX6_advance_1 : decode cX6_advance 1 = .ok (.aload_n 0, 1) := by decide +kernel
theorem dX6_advance_2 : decode cX6_advance 2 = .ok (.getfield 39, 3) := by decide +kernel
theorem dX6_advance_5 : decode cX6_advance 5 = .ok (.putfield 73, 3) := by decide +kernel
theorem dX6_advance_8 : decode cX6_advance 8 = .ok (.aload_n 0, 1) := by decide +kernel
theorem dX6_advance_9 : decode cX6_advance 9 = .ok (.getfield 73, 3) := by decide +kernel
theorem dX6_advance_12 : decode cX6_advance 12 = .ok (.aload_n 0, 1) := by decide +kernel
theorem dX6_advance_13 : decode cX6_advance 13 = .ok (.getfield 35, 3) := by decide +kernel
theorem dX6_advance_16 : decode cX6_advance 16 = .ok (.if_icmp .ge 31, 3) := by decide +kernel
theorem dX6_advance_19 : decode cX6_advance 19 = .ok (.aload_n 0, 1) := by decide +kernel
theorem dX6_advance_20 : decode cX6_advance 20 = .ok (.getfield 25, 3) := by decide +kernel
theorem dX6_advance_23 : decode cX6_advance 23 = .ok (.aload_n 0, 1) := by decide +kernel
theorem dX6_advance_24 : decode cX6_advance 24 = .ok (.getfield 73, 3) := by decide +kernel
theorem dX6_advance_27 : decode cX6_advance 27 = .ok (.iaload, 1) := by decide +kernel
theorem dX6_advance_28 : decode cX6_advance 28 = .ok (.invokestatic 167, 3) := by decide +kernel
theorem dX6_advance_31 : decode cX6_advance 31 = .ok (.ifCond .ne 16, 3) := by decide +kernel
theorem dX6_advance_34 : decode cX6_advance 34 = .ok (.aload_n 0, 1) := by decide +kernel
theorem dX6_advance_35 : decode cX6_advance 35 = .ok (.dup, 1) := by decide +kernel
theorem dX6_advance_36 : decode cX6_advance 36 = .ok (.getfield 73, 3) := by decide +kernel
theorem dX6_advance_39 : decode cX6_advance 39 = .ok (.iconst 1, 1) := by decide +kernel
theorem dX6_advance_40 : decode cX6_advance 40 = .ok (.iadd, 1) := by decide +kernel
theorem dX6_advance_41 : decode cX6_advance 41 = .ok (.putfield 73, 3) := by decide +kernel
theorem dX6_advance_44 : decode cX6_advance 44 = .ok (.goto (-36), 3) := by decide +kernel
theorem dX6_advance_47 : decode cX6_advance 47 = .ok (.aload_n 0, 1) := by decide +kernel
theorem dX6_advance_48 : decode cX6_advance 48 = .ok (.aload_n 0, 1) := by decide +kernel
theorem dX6_advance_49 : decode cX6_advance 49 = .ok (.getfield 73, 3) := by decide +kernel
theorem dX6_advance_52 : decode cX6_advance 52 = .ok (.aload_n 0, 1) := by decide +kernel
theorem dX6_advance_53 : decode cX6_advance 53 = .ok (.getfield 35, 3) := by decide +kernel
theorem dX6_advance_56 : decode cX6_advance 56 = .ok (.if_icmp .ge 18, 3) := by decide +kernel
theorem dX6_advance_59 : decode cX6_advance 59 = .ok (.aload_n 0, 1) := by decide +kernel
theorem dX6_advance_60 : decode cX6_advance 60 = .ok (.getfield 25, 3) := by decide +kernel
theorem dX6_advance_63 : decode cX6_advance 63 = .ok (.aload_n 0, 1) := by decide +kernel
theorem dX6_advance_64 : decode cX6_advance 64 = .ok (.getfield 73, 3) := by decide +kernel
theorem dX6_advance_67 : decode cX6_advance 67 = .ok (.iaload, 1) := by decide +kernel
theorem dX6_advance_68 : decode cX6_advance 68 = .ok (.invokestatic 167, 3) := by decide +kernel
theorem dX6_advance_71 : decode cX6_advance 71 = .ok (.goto 4, 3) := by decide +kernel
theorem dX6_advance_74 : decode cX6_advance 74 = .ok (.iconst 5, 1) := by decide +kernel
theorem dX6_advance_75 : decode cX6_advance 75 = .ok (.putfield 61, 3) := by decide +kernel
theorem dX6_advance_78 : decode cX6_advance 78 = .ok (.aload_n 0, 1) := by decide +kernel
theorem dX6_advance_79 : decode cX6_advance 79 = .ok (.aload_n 0, 1) := by decide +kernel
theorem dX6_advance_80 : decode cX6_advance 80 = .ok (.getfield 73, 3) := by decide +kernel
theorem dX6_advance_83 : decode cX6_advance 83 = .ok (.aload_n 0, 1) := by decide +kernel
theorem dX6_advance_84 : decode cX6_advance 84 = .ok (.getfield 35, 3) := by decide +kernel
theorem dX6_advance_87 : decode cX6_advance 87 = .ok (.if_icmp .ge 12, 3) := by decide +kernel
theorem dX6_advance_90 : decode cX6_advance 90 = .ok (.aload_n 0, 1) := by decide +kernel
theorem dX6_advance_91 : decode cX6_advance 91 = .ok (.getfield 73, 3) := by decide +kernel
theorem dX6_advance_94 : decode cX6_advance 94 = .ok (.iconst 1, 1) := by decide +kernel
theorem dX6_advance_95 : decode cX6_advance 95 = .ok (.iadd, 1) := by decide +kernel
theorem dX6_advance_96 : decode cX6_advance 96 = .ok (.goto 7, 3) := by decide +kernel
theorem dX6_advance_99 : decode cX6_advance 99 = .ok (.aload_n 0, 1) := by decide +kernel
theorem dX6_advance_100 : decode cX6_advance 100 = .ok (.getfield 73, 3) := by decide +kernel
theorem dX6_advance_103 : decode cX6_advance 103 = .ok (.putfield 39, 3) := by decide +kernel
theorem dX6_advance_106 : decode cX6_advance 106 = .ok (.aload_n 0, 1) := by decide +kernel
theorem dX6_advance_107 : decode cX6_advance 107 = .ok (.getfield 61, 3) := by decide +kernel
theorem dX6_advance_110 : decode cX6_advance 110 = .ok (.iconst 1, 1) := by decide +kernel
theorem dX6_advance_111 : decode cX6_advance 111 = .ok (.if_icmp .eq 11, 3) := by decide +kernel
theorem dX6_advance_114 : decode cX6_advance 114 = .ok (.aload_n 0, 1) := by decide +kernel
theorem dX6_advance_115 : decode cX6_advance 115 = .ok (.getfield 61, 3) := by decide +kernel
theorem dX6_advance_118 : decode cX6_advance 118 = .ok (.iconst 2, 1) := by decide +kernel
theorem dX6_advance_119 : decode cX6_advance 119 = .ok (.if_icmp .ne 7, 3) := by decide +kernel
theorem dX6_advance_122 : decode cX6_advance 122 = .ok (.iconst 1, 1) := by decide +kernel
theorem dX6_advance_123 : decode cX6_advance 123 = .ok (.goto 4, 3) := by decide +kernel
theorem dX6_advance_126 : decode cX6_advance 126 = .ok (.iconst 0, 1) := by decide +kernel
theorem dX6_advance_127 : decode cX6_advance 127 = .ok (.istore_n 1, 1) := by decide +kernel
theorem dX6_advance_128 : decode cX6_advance 128 = .ok (.iload_n 1, 1) := by decide +kernel
theorem dX6_advance_129 : decode cX6_advance 129 = .ok (.ifCond .eq 46, 3) := by decide +kernel
theorem dX6_advance_132 : decode cX6_advance 132 = .ok (.aload_n 0, 1) := by decide +kernel
theorem dX6_advance_133 : decode cX6_advance 133 = .ok (.getfield 39, 3) := by decide +kernel
theorem dX6_advance_136 : decode cX6_advance 136 = .ok (.aload_n 0, 1) := by decide +kernel
theorem dX6_advance_137 : decode cX6_advance 137 = .ok (.getfield 35, 3) := by decide +kernel
theorem dX6_advance_140 : decode cX6_advance 140 = .ok (.if_icmp .ge 35, 3) := by decide +kernel
theorem dX6_advance_143 : decode cX6_advance 143 = .ok (.aload_n 0, 1) := by decide +kernel
theorem dX6_advance_144 : decode cX6_advance 144 = .ok (.getfield 25, 3) := by decide +kernel
theorem dX6_advance_147 : decode cX6_advance 147 = .ok (.aload_n 0, 1) := by decide +kernel
theorem dX6_advance_148 : decode cX6_advance 148 = .ok (.getfield 39, 3) := by decide +kernel
theorem dX6_advance_151 : decode cX6_advance 151 = .ok (.iaload, 1) := by decide +kernel
theorem dX6_advance_152 : decode cX6_advance 152 = .ok (.invokestatic 167, 3) := by decide +kernel
theorem dX6_advance_155 : decode cX6_advance 155 = .ok (.aload_n 0, 1) := by decide +kernel
theorem dX6_advance_156 : decode cX6_advance 156 = .ok (.getfield 61, 3) := by decide +kernel
theorem dX6_advance_159 : decode cX6_advance 159 = .ok (.if_icmp .ne 16, 3) := by decide +kernel
theorem dX6_advance_162 : decode cX6_advance 162 = .ok (.aload_n 0, 1) := by decide +kernel
theorem dX6_advance_163 : decode cX6_advance 163 = .ok (.dup, 1) := by decide +kernel
theorem dX6_advance_164 : decode cX6_advance 164 = .ok (.getfield 39, 3) := by decide +kernel
theorem dX6_advance_167 : decode cX6_advance 167 = .ok (.iconst 1, 1) := by decide +kernel
theorem dX6_advance_168 : decode cX6_advance 168 = .ok (.iadd, 1) := by decide +kernel
theorem dX6_advance_169 : decode cX6_advance 169 = .ok (.putfield 39, 3) := by decide +kernel
theorem dX6_advance_172 : decode cX6_advance 172 = .ok (.goto (-44), 3) := by decide +kernel
theorem dX6_advance_175 : decode cX6_advance 175 = .ok (.aload_n 0, 1) := by decide +kernel
theorem dX6_advance_176 : decode cX6_advance 176 = .ok (.getfield 61, 3) := by decide +kernel
theorem dX6_advance_179 : decode cX6_advance 179 = .ok (.iconst 2, 1) := by decide +kernel
theorem dX6_advance_180 : decode cX6_advance 180 = .ok (.if_icmp .ne 21, 3) := by decide +kernel
theorem dX6_advance_183 : decode cX6_advance 183 = .ok (.aload_n 0, 1) := by decide +kernel
theorem dX6_advance_184 : decode cX6_advance 184 = .ok (.getfield 39, 3) := by decide +kernel
theorem dX6_advance_187 : decode cX6_advance 187 = .ok (.aload_n 0, 1) := by decide +kernel
theorem dX6_advance_188 : decode cX6_advance 188 = .ok (.getfield 73, 3) := by decide +kernel
theorem dX6_advance_191 : decode cX6_advance 191 = .ok (.isub, 1) := by decide +kernel
theorem dX6_advance_192 : decode cX6_advance 192 = .ok (.iconst 2, 1) := by decide +kernel
theorem dX6_advance_193 : decode cX6_advance 193 = .ok (.if_icmp .le 8, 3) := by decide +kernel
theorem dX6_advance_196 : decode cX6_advance 196 = .ok (.aload_n 0, 1) := by decide +kernel
theorem dX6_advance_197 : decode cX6_advance 197 = .ok (.iconst 4, 1) := by decide +kernel
theorem dX6_advance_198 : decode cX6_advance 198 = .ok (.putfield 61, 3) := by decide +kernel
theorem dX6_advance_201 : decode cX6_advance 201 = .ok (.aload_n 0, 1) := by decide +kernel
theorem dX6_advance_202 : decode cX6_advance 202 = .ok (.iconst 0, 1) := by decide +kernel
theorem dX6_advance_203 : decode cX6_advance 203 = .ok (.putfield 157, 3) := by decide +kernel
theorem dX6_advance_206 : decode cX6_advance 206 = .ok (.aload_n 0, 1) := by decide +kernel
theorem dX6_advance_207 : decode cX6_advance 207 = .ok (.getfield 73, 3) := by decide +kernel
theorem dX6_advance_210 : decode cX6_advance 210 = .ok (.istore_n 2, 1) := by decide +kernel
theorem dX6_advance_211 : decode cX6_advance 211 = .ok (.iload_n 2, 1) := by decide +kernel
theorem dX6_advance_212 : decode cX6_advance 212 = .ok (.aload_n 0, 1) := by decide +kernel
theorem dX6_advance_213 : decode cX6_advance 213 = .ok (.getfield 39, 3) := by decide +kernel
theorem dX6_advance_216 : decode cX6_advance 216 = .ok (.if_icmp .ge 38, 3) := by decide +kernel
theorem dX6_advance_219 : decode cX6_advance 219 = .ok (.aload_n 0, 1) := by decide +kernel
theorem dX6_advance_220 : decode cX6_advance 220 = .ok (.getfield 61, 3) := by decide +kernel
theorem dX6_advance_223 : decode cX6_advance 223 = .ok (.iconst 2, 1) := by decide +kernel
theorem dX6_advance_224 : decode cX6_advance 224 = .ok (.if_icmp .ne 30, 3) := by decide +kernel
theorem dX6_advance_227 : decode cX6_advance 227 = .ok (.aload_n 0, 1) := by decide +kernel
theorem dX6_advance_228 : decode cX6_advance 228 = .ok (.bipush 10, 2) := by decide +kernel
theorem dX6_advance_230 : decode cX6_advance 230 = .ok (.aload_n 0, 1) := by decide +kernel
theorem dX6_advance_231 : decode cX6_advance 231 = .ok (.getfield 157, 3) := by decide +kernel
theorem dX6_advance_234 : decode cX6_advance 234 = .ok (.imul, 1) := by decide +kernel
theorem dX6_advance_235 : decode cX6_advance 235 = .ok (.aload_n 0, 1) := by decide +kernel
theorem dX6_advance_236 : decode cX6_advance 236 = .ok (.getfield 25, 3) := by decide +kernel
theorem dX6_advance_239 : decode cX6_advance 239 = .ok (.iload_n 2, 1) := by decide +kernel
theorem dX6_advance_240 : decode cX6_advance 240 = .ok (.iaload, 1) := by decide +kernel
theorem dX6_advance_241 : decode cX6_advance 241 = .ok (.iadd, 1) := by decide +kernel
theorem dX6_advance_242 : decode cX6_advance 242 = .ok (.bipush 48, 2) := by decide +kernel
theorem dX6_advance_244 : decode cX6_advance 244 = .ok (.isub, 1) := by decide +kernel
theorem dX6_advance_245 : decode cX6_advance 245 = .ok (.putfield 157, 3) := by decide +kernel
theorem dX6_advance_248 : decode cX6_advance 248 = .ok (.iinc 2 1, 3) := by decide +kernel
theorem dX6_advance_251 : decode cX6_advance 251 = .ok (.goto (-40), 3) := by decide +kernel
theorem dX6_advance_254 : decode cX6_advance 254 = .ok (.return_, 1) := by decide +kernel
theorem dX6_kindOf_0 : decode cX6_kindOf 0 = .ok (.iload_n 0, 1) := by decide +kernel
theorem dX6_kindOf_1 : decode cX6_kindOf 1 = .ok (.bipush 10, 2) := by decide +kernel
theorem dX6_kindOf_3 : decode cX6_kindOf 3 = .ok (.if_icmp .eq 9, 3) := by decide +kernel
theorem dX6_kindOf_6 : decode cX6_kindOf 6 = .ok (.iload_n 0, 1) := by decide +kernel
theorem dX6_kindOf_7 : decode cX6_kindOf 7 = .ok (.bipush 32, 2) := by decide +kernel
theorem dX6_kindOf_9 : decode cX6_kindOf 9 = .ok (.if_icmp .ne 5, 3) := by decide +kernel
theorem dX6_kindOf_12 : decode cX6_kindOf 12 = .ok (.iconst 0, 1) := by decide +kernel
theorem dX6_kindOf_13 : decode cX6_kindOf 13 = .ok (.ireturn, 1) := by decide +kernel
theorem dX6_kindOf_14 : decode cX6_kindOf 14 = .ok (.iload_n 0, 1) := by decide +kernel
theorem dX6_kindOf_15 : decode cX6_kindOf 15 = .ok (.bipush 97, 2) := by decide +kernel
theorem dX6_kindOf_17 : decode cX6_kindOf 17 = .ok (.if_icmp .lt 11, 3) := by decide +kernel
theorem dX6_kindOf_20 : decode cX6_kindOf 20 = .ok (.iload_n 0, 1) := by decide +kernel
theorem dX6_kindOf_21 : decode cX6_kindOf 21 = .ok (.bipush 122, 2) := by decide +kernel
theorem dX6_kindOf_23 : decode cX6_kindOf 23 = .ok (.if_icmp .gt 5, 3) := by decide +kernel
theorem dX6_kindOf_26 : decode cX6_kindOf 26 = .ok (.iconst 1, 1) := by decide +kernel
theorem dX6_kindOf_27 : decode cX6_kindOf 27 = .ok (.ireturn, 1) := by decide +kernel
theorem dX6_kindOf_28 : decode cX6_kindOf 28 = .ok (.iload_n 0, 1) := by decide +kernel
theorem dX6_kindOf_29 : decode cX6_kindOf 29 = .ok (.bipush 48, 2) := by decide +kernel
theorem dX6_kindOf_31 : decode cX6_kindOf 31 = .ok (.if_icmp .lt 11, 3) := by decide +kernel
theorem dX6_kindOf_34 : decode cX6_kindOf 34 = .ok (.iload_n 0, 1) := by decide +kernel
theorem dX6_kindOf_35 : decode cX6_kindOf 35 = .ok (.bipush 57, 2) := by decide +kernel
theorem dX6_kindOf_37 : decode cX6_kindOf 37 = .ok (.if_icmp .gt 5, 3) := by decide +kernel
theorem dX6_kindOf_40 : decode cX6_kindOf 40 = .ok (.iconst 2, 1) := by decide +kernel
theorem dX6_kindOf_41 : decode cX6_kindOf 41 = .ok (.ireturn, 1) := by decide +kernel
theorem dX6_kindOf_42 : decode cX6_kindOf 42 = .ok (.iload_n 0, 1) := by decide +kernel
theorem dX6_kindOf_43 : decode cX6_kindOf 43 = .ok (.bipush 59, 2) := by decide +kernel
theorem dX6_kindOf_45 : decode cX6_kindOf 45 = .ok (.if_icmp .ne 7, 3) := by decide +kernel
theorem dX6_kindOf_48 : decode cX6_kindOf 48 = .ok (.iconst 3, 1) := by decide +kernel
theorem dX6_kindOf_49 : decode cX6_kindOf 49 = .ok (.goto 4, 3) := by decide +kernel
theorem dX6_kindOf_52 : decode cX6_kindOf 52 = .ok (.iconst 4, 1) := by decide +kernel
theorem dX6_kindOf_53 : decode cX6_kindOf 53 = .ok (.ireturn, 1) := by decide +kernel
theorem dX7_init_0 : decode cX7_init 0 = .ok (.aload_n 0, 1) := by decide +kernel
theorem dX7_init_1 : decode cX7_init 1 = .ok (.invokespecial 3, 3) := by decide +kernel
theorem dX7_init_4 : decode cX7_init 4 = .ok (.aload_n 0, 1) := by decide +kernel
theorem dX7_init_5 : decode cX7_init 5 = .ok (.bipush 6, 2) := by decide +kernel
theorem dX7_init_7 : decode cX7_init 7 = .ok (.newarray .int, 2) := by decide +kernel
theorem dX7_init_9 : decode cX7_init 9 = .ok (.putfield 9, 3) := by decide +kernel
theorem dX7_init_12 : decode cX7_init 12 = .ok (.aload_n 0, 1) := by decide +kernel
theorem dX7_init_13 : decode cX7_init 13 = .ok (.iconst 2, 1) := by decide +kernel
theorem dX7_init_14 : decode cX7_init 14 = .ok (.newarray .int, 2) := by decide +kernel
theorem dX7_init_16 : decode cX7_init 16 = .ok (.putfield 15, 3) := by decide +kernel
theorem dX7_init_19 : decode cX7_init 19 = .ok (.aload_n 0, 1) := by decide +kernel
theorem dX7_init_20 : decode cX7_init 20 = .ok (.aload_n 1, 1) := by decide +kernel
theorem dX7_init_21 : decode cX7_init 21 = .ok (.putfield 18, 3) := by decide +kernel
theorem dX7_init_24 : decode cX7_init 24 = .ok (.return_, 1) := by decide +kernel
theorem dX7_begin_0 : decode cX7_begin 0 = .ok (.aload_n 0, 1) := by decide +kernel
theorem dX7_begin_1 : decode cX7_begin 1 = .ok (.aload_n 1, 1) := by decide +kernel
theorem dX7_begin_2 : decode cX7_begin 2 = .ok (.putfield 18, 3) := by decide +kernel
theorem dX7_begin_5 : decode cX7_begin 5 = .ok (.aload_n 0, 1) := by decide +kernel
theorem dX7_begin_6 : decode cX7_begin 6 = .ok (.iload_n 2, 1) := by decide +kernel
theorem dX7_begin_7 : decode cX7_begin 7 = .ok (.putfield 22, 3) := by decide +kernel
theorem dX7_begin_10 : decode cX7_begin 10 = .ok (.aload_n 0, 1) := by decide +kernel
theorem dX7_begin_11 : decode cX7_begin 11 = .ok (.iconst 0, 1) := by decide +kernel
theorem dX7_begin_12 : decode cX7_begin 12 = .ok (.putfield 26, 3) := by decide +kernel
theorem dX7_begin_15 : decode cX7_begin 15 = .ok (.aload_n 1, 1) := by decide +kernel
theorem dX7_begin_16 : decode cX7_begin 16 = .ok (.getfield 29, 3) := by decide +kernel
theorem dX7_begin_19 : decode cX7_begin 19 = .ok (.iconst 0, 1) := by decide +kernel
theorem dX7_begin_20 : decode cX7_begin 20 = .ok (.aload_n 0, 1) := by decide +kernel
theorem dX7_begin_21 : decode cX7_begin 21 = .ok (.getfield 9, 3) := by decide +kernel
theorem dX7_begin_24 : decode cX7_begin 24 = .ok (.iconst 0, 1) := by decide +kernel
theorem dX7_begin_25 : decode cX7_begin 25 = .ok (.bipush 6, 2) := by decide +kernel
theorem dX7_begin_27 : decode cX7_begin 27 = .ok (.invokestatic 34, 3) := by decide +kernel
theorem dX7_begin_30 : decode cX7_begin 30 = .ok (.aload_n 0, 1) := by decide +kernel
theorem dX7_begin_31 : decode cX7_begin 31 = .ok (.getfield 15, 3) := by decide +kernel
theorem dX7_begin_34 : decode cX7_begin 34 = .ok (.iconst 0, 1) := by decide +kernel
theorem dX7_begin_35 : decode cX7_begin 35 = .ok (.iconst (-1), 1) := by decide +kernel
theorem dX7_begin_36 : decode cX7_begin 36 = .ok (.iastore, 1) := by decide +kernel
theorem dX7_begin_37 : decode cX7_begin 37 = .ok (.aload_n 0, 1) := by decide +kernel
theorem dX7_begin_38 : decode cX7_begin 38 = .ok (.getfield 15, 3) := by decide +kernel
theorem dX7_begin_41 : decode cX7_begin 41 = .ok (.iconst 1, 1) := by decide +kernel
theorem dX7_begin_42 : decode cX7_begin 42 = .ok (.iconst (-1), 1) := by decide +kernel
theorem dX7_begin_43 : decode cX7_begin 43 = .ok (.iastore, 1) := by decide +kernel
theorem dX7_begin_44 : decode cX7_begin 44 = .ok (.return_, 1) := by decide +kernel
theorem dX7_copy_0 : decode cX7_copy 0 = .ok (.aload_n 0, 1) := by decide +kernel
theorem dX7_copy_1 : decode cX7_copy 1 = .ok (.aload_n 1, 1) := by decide +kernel
theorem dX7_copy_2 : decode cX7_copy 2 = .ok (.getfield 18, 3) := by decide +kernel
theorem dX7_copy_5 : decode cX7_copy 5 = .ok (.putfield 18, 3) := by decide +kernel
theorem dX7_copy_8 : decode cX7_copy 8 = .ok (.aload_n 0, 1) := by decide +kernel
theorem dX7_copy_9 : decode cX7_copy 9 = .ok (.aload_n 1, 1) := by decide +kernel
theorem dX7_copy_10 : decode cX7_copy 10 = .ok (.getfield 22, 3) := by decide +kernel
theorem dX7_copy_13 : decode cX7_copy 13 = .ok (.putfield 22, 3) := by decide +kernel
theorem dX7_copy_16 : decode cX7_copy 16 = .ok (.aload_n 0, 1) := by decide +kernel
theorem dX7_copy_17 : decode cX7_copy 17 = .ok (.aload_n 1, 1) := by decide +kernel
theorem dX7_copy_18 : decode cX7_copy 18 = .ok (.getfield 26, 3) := by decide +kernel
theorem dX7_copy_21 : decode cX7_copy 21 = .ok (.putfield 26, 3) := by decide +kernel
theorem dX7_copy_24 : decode cX7_copy 24 = .ok (.aload_n 1, 1) := by decide +kernel
theorem dX7_copy_25 : decode cX7_copy 25 = .ok (.getfield 9, 3) := by decide +kernel
theorem dX7_copy_28 : decode cX7_copy 28 = .ok (.iconst 0, 1) := by decide +kernel
theorem dX7_copy_29 : decode cX7_copy 29 = .ok (.aload_n 0, 1) := by decide +kernel
theorem dX7_copy_30 : decode cX7_copy 30 = .ok (.getfield 9, 3) := by decide +kernel
theorem dX7_copy_33 : decode cX7_copy 33 = .ok (.iconst 0, 1) := by decide +kernel
theorem dX7_copy_34 : decode cX7_copy 34 = .ok (.bipush 6, 2) := by decide +kernel
theorem dX7_copy_36 : decode cX7_copy 36 = .ok (.invokestatic 34, 3) := by decide +kernel
theorem dX7_copy_39 : decode cX7_copy 39 = .ok (.aload_n 0, 1) := by decide +kernel
theorem dX7_copy_40 : decode cX7_copy 40 = .ok (.getfield 15, 3) := by decide +kernel
theorem dX7_copy_43 : decode cX7_copy 43 = .ok (.iconst 0, 1) := by decide +kernel
theorem dX7_copy_44 : decode cX7_copy 44 = .ok (.aload_n 1, 1) := by decide +kernel
theorem dX7_copy_45 : decode cX7_copy 45 = .ok (.getfield 15, 3) := by decide +kernel
theorem dX7_copy_48 : decode cX7_copy 48 = .ok (.iconst 0, 1) := by decide +kernel
theorem dX7_copy_49 : decode cX7_copy 49 = .ok (.iaload, 1) := by decide +kernel
theorem dX7_copy_50 : decode cX7_copy 50 = .ok (.iastore, 1) := by decide +kernel
theorem dX7_copy_51 : decode cX7_copy 51 = .ok (.aload_n 0, 1) := by decide +kernel
theorem dX7_copy_52 : decode cX7_copy 52 = .ok (.getfield 15, 3) := by decide +kernel
theorem dX7_copy_55 : decode cX7_copy 55 = .ok (.iconst 1, 1) := by decide +kernel
theorem dX7_copy_56 : decode cX7_copy 56 = .ok (.aload_n 1, 1) := by decide +kernel
theorem dX7_copy_57 : decode cX7_copy 57 = .ok (.getfield 15, 3) := by decide +kernel
theorem dX7_copy_60 : decode cX7_copy 60 = .ok (.iconst 1, 1) := by decide +kernel
theorem dX7_copy_61 : decode cX7_copy 61 = .ok (.iaload, 1) := by decide +kernel
theorem dX7_copy_62 : decode cX7_copy 62 = .ok (.iastore, 1) := by decide +kernel
theorem dX7_copy_63 : decode cX7_copy 63 = .ok (.return_, 1) := by decide +kernel
theorem dX7_isStanding_0 : decode cX7_isStanding 0 = .ok (.aload_n 0, 1) := by decide +kernel
theorem dX7_isStanding_1 : decode cX7_isStanding 1 = .ok (.getfield 18, 3) := by decide +kernel
theorem dX7_isStanding_4 : decode cX7_isStanding 4 = .ok (.getfield 40, 3) := by decide +kernel
theorem dX7_isStanding_7 : decode cX7_isStanding 7 = .ok (.iload_n 1, 1) := by decide +kernel
theorem dX7_isStanding_8 : decode cX7_isStanding 8 = .ok (.iaload, 1) := by decide +kernel
theorem dX7_isStanding_9 : decode cX7_isStanding 9 = .ok (.iload_n 2, 1) := by decide +kernel
