/-! ===== the class: contracts proved by hand ===== -/
theorem dX11_bit_0 : decode cX11_bit 0 = .ok (.lconst 1, 1) := by decide +kernel
theorem dX11_bit_1 : decode cX11_bit 1 = .ok (.iload_n 0, 1) := by decide +kernel
theorem dX11_bit_2 : decode cX11_bit 2 = .ok (.lshl, 1) := by decide +kernel
theorem dX11_bit_3 : decode cX11_bit 3 = .ok (.lreturn, 1) := by decide +kernel
theorem dX11_has_0 : decode cX11_has 0 = .ok (.lload_n 0, 1) := by decide +kernel
theorem dX11_has_1 : decode cX11_has 1 = .ok (.iload_n 2, 1) := by decide +kernel
theorem dX11_has_2 : decode cX11_has 2 = .ok (.lushr, 1) := by decide +kernel
theorem dX11_has_3 : decode cX11_has 3 = .ok (.lconst 1, 1) := by decide +kernel
theorem dX11_has_4 : decode cX11_has 4 = .ok (.land, 1) := by decide +kernel
theorem dX11_has_5 : decode cX11_has 5 = .ok (.lconst 0, 1) := by decide +kernel
theorem dX11_has_6 : decode cX11_has 6 = .ok (.lcmp, 1) := by decide +kernel
theorem dX11_has_7 : decode cX11_has 7 = .ok (.ifCond .eq 7, 3) := by decide +kernel
theorem dX11_has_10 : decode cX11_has 10 = .ok (.iconst 1, 1) := by decide +kernel
theorem dX11_has_11 : decode cX11_has 11 = .ok (.goto 4, 3) := by decide +kernel
theorem dX11_has_14 : decode cX11_has 14 = .ok (.iconst 0, 1) := by decide +kernel
theorem dX11_has_15 : decode cX11_has 15 = .ok (.ireturn, 1) := by decide +kernel
theorem dX3_layNeighbours_0 : decode cX3_layNeighbours 0 = .ok (.lconst 0, 1) := by decide +kernel
theorem dX3_layNeighbours_1 : decode cX3_layNeighbours 1 = .ok (.lstore 6, 2) := by decide +kernel
theorem dX3_layNeighbours_3 : decode cX3_layNeighbours 3 = .ok (.iconst 0, 1) := by decide +kernel
theorem dX3_layNeighbours_4 : decode cX3_layNeighbours 4 = .ok (.istore 8, 2) := by decide +kernel
theorem dX3_layNeighbours_6 : decode cX3_layNeighbours 6 = .ok (.iload 8, 2) := by decide +kernel
theorem dX3_layNeighbours_8 : decode cX3_layNeighbours 8 = .ok (.aload_n 1, 1) := by decide +kernel
theorem dX3_layNeighbours_9 : decode cX3_layNeighbours 9 = .ok (.getfield 25, 3) := by decide +kernel
theorem dX3_layNeighbours_12 : decode cX3_layNeighbours 12 = .ok (.if_icmp .ge 24, 3) := by decide +kernel
theorem dX3_layNeighbours_15 : decode cX3_layNeighbours 15 = .ok (.lload 6, 2) := by decide +kernel
theorem dX3_layNeighbours_17 : decode cX3_layNeighbours 17 = .ok (.iload 8, 2) := by decide +kernel
theorem dX3_layNeighbours_19 : decode cX3_layNeighbours 19 = .ok (.aload_n 1, 1) := by decide +kernel
theorem dX3_layNeighbours_20 : decode cX3_layNeighbours 20 = .ok (.getfield 19, 3) := by decide +kernel
theorem dX3_layNeighbours_23 : decode cX3_layNeighbours 23 = .ok (.imul, 1) := by decide +kernel
theorem dX3_layNeighbours_24 : decode cX3_layNeighbours 24 = .ok (.invokestatic 28, 3) := by decide +kernel
theorem dX3_layNeighbours_27 : decode cX3_layNeighbours 27 = .ok (.lor, 1) := by decide +kernel
theorem dX3_layNeighbours_28 : decode cX3_layNeighbours 28 = .ok (.lstore 6, 2) := by decide +kernel
theorem dX3_layNeighbours_30 : decode cX3_layNeighbours 30 = .ok (.iinc 8 1, 3) := by decide +kernel
theorem dX3_layNeighbours_33 : decode cX3_layNeighbours 33 = .ok (.goto (-27), 3) := by decide +kernel
theorem dX3_layNeighbours_36 : decode cX3_layNeighbours 36 = .ok (.lload 6, 2) := by decide +kernel
theorem dX3_layNeighbours_38 : decode cX3_layNeighbours 38 = .ok (.aload_n 1, 1) := by decide +kernel
theorem dX3_layNeighbours_39 : decode cX3_layNeighbours 39 = .ok (.getfield 19, 3) := by decide +kernel
theorem dX3_layNeighbours_42 : decode cX3_layNeighbours 42 = .ok (.iconst 1, 1) := by decide +kernel
theorem dX3_layNeighbours_43 : decode cX3_layNeighbours 43 = .ok (.isub, 1) := by decide +kernel
theorem dX3_layNeighbours_44 : decode cX3_layNeighbours 44 = .ok (.lshl, 1) := by decide +kernel
theorem dX3_layNeighbours_45 : decode cX3_layNeighbours 45 = .ok (.lstore 8, 2) := by decide +kernel
theorem dX3_layNeighbours_47 : decode cX3_layNeighbours 47 = .ok (.aload_n 0, 1) := by decide +kernel
theorem dX3_layNeighbours_48 : decode cX3_layNeighbours 48 = .ok (.getfield 9, 3) := by decide +kernel
theorem dX3_layNeighbours_51 : decode cX3_layNeighbours 51 = .ok (.iconst 0, 1) := by decide +kernel
theorem dX3_layNeighbours_52 : decode cX3_layNeighbours 52 = .ok (.lload 4, 2) := by decide +kernel
theorem dX3_layNeighbours_54 : decode cX3_layNeighbours 54 = .ok (.aload_n 1, 1) := by decide +kernel
theorem dX3_layNeighbours_55 : decode cX3_layNeighbours 55 = .ok (.getfield 19, 3) := by decide +kernel
theorem dX3_layNeighbours_58 : decode cX3_layNeighbours 58 = .ok (.lshl, 1) := by decide +kernel
theorem dX3_layNeighbours_59 : decode cX3_layNeighbours 59 = .ok (.lload_n 2, 1) := by decide +kernel
theorem dX3_layNeighbours_60 : decode cX3_layNeighbours 60 = .ok (.land, 1) := by decide +kernel
theorem dX3_layNeighbours_61 : decode cX3_layNeighbours 61 = .ok (.lastore, 1) := by decide +kernel
theorem dX3_layNeighbours_62 : decode cX3_layNeighbours 62 = .ok (.aload_n 0, 1) := by decide +kernel
theorem dX3_layNeighbours_63 : decode cX3_layNeighbours 63 = .ok (.getfield 9, 3) := by decide +kernel
theorem dX3_layNeighbours_66 : decode cX3_layNeighbours 66 = .ok (.iconst 1, 1) := by decide +kernel
theorem dX3_layNeighbours_67 : decode cX3_layNeighbours 67 = .ok (.lload 4, 2) := by decide +kernel
theorem dX3_layNeighbours_69 : decode cX3_layNeighbours 69 = .ok (.lload 6, 2) := by decide +kernel
theorem dX3_layNeighbours_71 : decode cX3_layNeighbours 71 = .ok (.ldc2_w 36, 3) := by decide +kernel
theorem dX3_layNeighbours_74 : decode cX3_layNeighbours 74 = .ok (.lxor, 1) := by decide +kernel
theorem dX3_layNeighbours_75 : decode cX3_layNeighbours 75 = .ok (.land, 1) := by decide +kernel
theorem dX3_layNeighbours_76 : decode cX3_layNeighbours 76 = .ok (.iconst 1, 1) := by decide +kernel
theorem dX3_layNeighbours_77 : decode cX3_layNeighbours 77 = .ok (.lushr, 1) := by decide +kernel
theorem dX3_layNeighbours_78 : decode cX3_layNeighbours 78 = .ok (.lastore, 1) := by decide +kernel
theorem dX3_layNeighbours_79 : decode cX3_layNeighbours 79 = .ok (.aload_n 0, 1) := by decide +kernel
theorem dX3_layNeighbours_80 : decode cX3_layNeighbours 80 = .ok (.getfield 9, 3) := by decide +kernel
theorem dX3_layNeighbours_83 : decode cX3_layNeighbours 83 = .ok (.iconst 2, 1) := by decide +kernel
theorem dX3_layNeighbours_84 : decode cX3_layNeighbours 84 = .ok (.lload 4, 2) := by decide +kernel
theorem dX3_layNeighbours_86 : decode cX3_layNeighbours 86 = .ok (.aload_n 1, 1) := by decide +kernel
theorem dX3_layNeighbours_87 : decode cX3_layNeighbours 87 = .ok (.getfield 19, 3) := by decide +kernel
theorem dX3_layNeighbours_90 : decode cX3_layNeighbours 90 = .ok (.lushr, 1) := by decide +kernel
theorem dX3_layNeighbours_91 : decode cX3_layNeighbours 91 = .ok (.lastore, 1) := by decide +kernel
theorem dX3_layNeighbours_92 : decode cX3_layNeighbours 92 = .ok (.aload_n 0, 1) := by decide +kernel
theorem dX3_layNeighbours_93 : decode cX3_layNeighbours 93 = .ok (.getfield 9, 3) := by decide +kernel
theorem dX3_layNeighbours_96 : decode cX3_layNeighbours 96 = .ok (.iconst 3, 1) := by decide +kernel
theorem dX3_layNeighbours_97 : decode cX3_layNeighbours 97 = .ok (.lload 4, 2) := by decide +kernel
theorem dX3_layNeighbours_99 : decode cX3_layNeighbours 99 = .ok (.lload 8, 2) := by decide +kernel
theorem dX3_layNeighbours_101 : decode cX3_layNeighbours 101 = .ok (.ldc2_w 36, 3) := by decide +kernel
theorem dX3_layNeighbours_104 : decode cX3_layNeighbours 104 = .ok (.lxor, 1) := by decide +kernel
theorem dX3_layNeighbours_105 : decode cX3_layNeighbours 105 = .ok (.land, 1) := by decide +kernel
theorem dX3_layNeighbours_106 : decode cX3_layNeighbours 106 = .ok (.iconst 1, 1) := by decide +kernel
theorem dX3_layNeighbours_107 : decode cX3_layNeighbours 107 = .ok (.lshl, 1) := by decide +kernel
theorem dX3_layNeighbours_108 : decode cX3_layNeighbours 108 = .ok (.lastore, 1) := by decide +kernel
theorem dX3_layNeighbours_109 : decode cX3_layNeighbours 109 = .ok (.aload_n 0, 1) := by decide +kernel
theorem dX3_layNeighbours_110 : decode cX3_layNeighbours 110 = .ok (.aload_n 0, 1) := by decide +kernel
theorem dX3_layNeighbours_111 : decode cX3_layNeighbours 111 = .ok (.getfield 38, 3) := by decide +kernel
theorem dX3_layNeighbours_114 : decode cX3_layNeighbours 114 = .ok (.aload_n 1, 1) := by decide +kernel
theorem dX3_layNeighbours_115 : decode cX3_layNeighbours 115 = .ok (.getfield 19, 3) := by decide +kernel
theorem dX3_layNeighbours_118 : decode cX3_layNeighbours 118 = .ok (.lshl, 1) := by decide +kernel
theorem dX3_layNeighbours_119 : decode cX3_layNeighbours 119 = .ok (.lload_n 2, 1) := by decide +kernel
theorem dX3_layNeighbours_120 : decode cX3_layNeighbours 120 = .ok (.land, 1) := by decide +kernel
theorem dX3_layNeighbours_121 : decode cX3_layNeighbours 121 = .ok (.aload_n 0, 1) := by decide +kernel
theorem dX3_layNeighbours_122 : decode cX3_layNeighbours 122 = .ok (.getfield 38, 3) := by decide +kernel
theorem dX3_layNeighbours_125 : decode cX3_layNeighbours 125 = .ok (.lload 6, 2) := by decide +kernel
theorem dX3_layNeighbours_127 : decode cX3_layNeighbours 127 = .ok (.ldc2_w 36, 3) := by decide +kernel
theorem dX3_layNeighbours_130 : decode cX3_layNeighbours 130 = .ok (.lxor, 1) := by decide +kernel
theorem dX3_layNeighbours_131 : decode cX3_layNeighbours 131 = .ok (.land, 1) := by decide +kernel
theorem dX3_layNeighbours_132 : decode cX3_layNeighbours 132 = .ok (.iconst 1, 1) := by decide +kernel
theorem dX3_layNeighbours_133 : decode cX3_layNeighbours 133 = .ok (.lushr, 1) := by decide +kernel
theorem dX3_layNeighbours_134 : decode cX3_layNeighbours 134 = .ok (.lor, 1) := by decide +kernel
theorem dX3_layNeighbours_135 : decode cX3_layNeighbours 135 = .ok (.aload_n 0, 1) := by decide +kernel
theorem dX3_layNeighbours_136 : decode cX3_layNeighbours 136 = .ok (.getfield 38, 3) := by decide +kernel
theorem dX3_layNeighbours_139 : decode cX3_layNeighbours 139 = .ok (.aload_n 1, 1) := by decide +kernel
theorem dX3_layNeighbours_140 : decode cX3_layNeighbours 140 = .ok (.getfield 19, 3) := by decide +kernel
theorem dX3_layNeighbours_143 : decode cX3_layNeighbours 143 = .ok (.lushr, 1) := by decide +kernel
theorem dX3_layNeighbours_144 : decode cX3_layNeighbours 144 = .ok (.lor, 1) := by decide +kernel
theorem dX3_layNeighbours_145 : decode cX3_layNeighbours 145 = .ok (.aload_n 0, 1) := by decide +kernel
theorem dX3_layNeighbours_146 : decode cX3_layNeighbours 146 = .ok (.getfield 38, 3) := by decide +kernel
theorem dX3_layNeighbours_149 : decode cX3_layNeighbours 149 = .ok (.lload 8, 2) := by decide +kernel
theorem dX3_layNeighbours_151 : decode cX3_layNeighbours 151 = .ok (.ldc2_w 36, 3) := by decide +kernel
theorem dX3_layNeighbours_154 : decode cX3_layNeighbours 154 = .ok (.lxor, 1) := by decide +kernel
theorem dX3_layNeighbours_155 : decode cX3_layNeighbours 155 = .ok (.land, 1) := by decide +kernel
theorem dX3_layNeighbours_156 : decode cX3_layNeighbours 156 = .ok (.iconst 1, 1) := by decide +kernel
theorem dX3_layNeighbours_157 : decode cX3_layNeighbours 157 = .ok (.lshl, 1) := by decide +kernel
theorem dX3_layNeighbours_158 : decode cX3_layNeighbours 158 = .ok (.lor, 1) := by decide +kernel
theorem dX3_layNeighbours_159 : decode cX3_layNeighbours 159 = .ok (.putfield 57, 3) := by decide +kernel
theorem dX3_layNeighbours_162 : decode cX3_layNeighbours 162 = .ok (.return_, 1) := by decide +kernel
theorem dX3_lay_0 : decode cX3_lay 0 = .ok (.aload_n 1, 1) := by decide +kernel
theorem dX3_lay_1 : decode cX3_lay 1 = .ok (.getfield 19, 3) := by decide +kernel
theorem dX3_lay_4 : decode cX3_lay 4 = .ok (.aload_n 1, 1) := by decide +kernel
theorem dX3_lay_5 : decode cX3_lay 5 = .ok (.getfield 25, 3) := by decide +kernel
theorem dX3_lay_8 : decode cX3_lay 8 = .ok (.imul, 1) := by decide +kernel
theorem dX3_lay_9 : decode cX3_lay 9 = .ok (.invokestatic 28, 3) := by decide +kernel
theorem dX3_lay_12 : decode cX3_lay 12 = .ok (.lconst 1, 1) := by decide +kernel
theorem dX3_lay_13 : decode cX3_lay 13 = .ok (.lsub, 1) := by decide +kernel
theorem dX3_lay_14 : decode cX3_lay 14 = .ok (.lstore 5, 2) := by decide +kernel
theorem dX3_lay_16 : decode cX3_lay 16 = .ok (.lload 5, 2) := by decide +kernel
theorem dX3_lay_18 : decode cX3_lay 18 = .ok (.aload_n 1, 1) := by decide +kernel
theorem dX3_lay_19 : decode cX3_lay 19 = .ok (.getfield 32, 3) := by decide +kernel
theorem dX3_lay_22 : decode cX3_lay 22 = .ok (.ldc2_w 36, 3) := by decide +kernel
theorem dX3_lay_25 : decode cX3_lay 25 = .ok (.lxor, 1) := by decide +kernel
theorem dX3_lay_26 : decode cX3_lay 26 = .ok (.land, 1) := by decide +kernel
theorem dX3_lay_27 : decode cX3_lay 27 = .ok (.lstore 7, 2) := by decide +kernel
theorem dX3_lay_29 : decode cX3_lay 29 = .ok (.aload_n 0, 1) := by decide +kernel
theorem dX3_lay_30 : decode cX3_lay 30 = .ok (.lconst 0, 1) := by decide +kernel
theorem dX3_lay_31 : decode cX3_lay 31 = .ok (.putfield 38, 3) := by decide +kernel
theorem dX3_lay_34 : decode cX3_lay 34 = .ok (.iconst 0, 1) := by decide +kernel
theorem dX3_lay_35 : decode cX3_lay 35 = .ok (.istore 9, 2) := by decide +kernel
theorem dX3_lay_37 : decode cX3_lay 37 = .ok (.iload 9, 2) := by decide +kernel
theorem dX3_lay_39 : decode cX3_lay 39 = .ok (.aload_n 1, 1) := by decide +kernel
theorem dX3_lay_40 : decode cX3_lay 40 = .ok (.getfield 41, 3) := by decide +kernel
theorem dX3_lay_43 : decode cX3_lay 43 = .ok (.if_icmp .ge 70, 3) := by decide +kernel
theorem dX3_lay_46 : decode cX3_lay 46 = .ok (.iload 9, 2) := by decide +kernel
theorem dX3_lay_48 : decode cX3_lay 48 = .ok (.iload 4, 2) := by decide +kernel
theorem dX3_lay_50 : decode cX3_lay 50 = .ok (.if_icmp .eq 57, 3) := by decide +kernel
theorem dX3_lay_53 : decode cX3_lay 53 = .ok (.aload_n 2, 1) := by decide +kernel
theorem dX3_lay_54 : decode cX3_lay 54 = .ok (.iload 9, 2) := by decide +kernel
theorem dX3_lay_56 : decode cX3_lay 56 = .ok (.iaload, 1) := by decide +kernel
theorem dX3_lay_57 : decode cX3_lay 57 = .ok (.iconst (-1), 1) := by decide +kernel
theorem dX3_lay_58 : decode cX3_lay 58 = .ok (.if_icmp .eq 49, 3) := by decide +kernel
theorem dX3_lay_61 : decode cX3_lay 61 = .ok (.aload_n 1, 1) := by decide +kernel
theorem dX3_lay_62 : decode cX3_lay 62 = .ok (.getfield 44, 3) := by decide +kernel
theorem dX3_lay_65 : decode cX3_lay 65 = .ok (.iload 9, 2) := by decide +kernel
theorem dX3_lay_67 : decode cX3_lay 67 = .ok (.iaload, 1) := by decide +kernel
theorem dX3_lay_68 : decode cX3_lay 68 = .ok (.iload_n 3, 1) := by decide +kernel
theorem dX3_lay_69 : decode cX3_lay 69 = .ok (.if_icmp .ne 22, 3) := by decide +kernel
theorem dX3_lay_72 : decode cX3_lay 72 = .ok (.lload 7, 2) := by decide +kernel
theorem dX3_lay_74 : decode cX3_lay 74 = .ok (.aload_n 2, 1) := by decide +kernel
theorem dX3_lay_75 : decode cX3_lay 75 = .ok (.iload 9, 2) := by decide +kernel
theorem dX3_lay_77 : decode cX3_lay 77 = .ok (.iaload, 1) := by decide +kernel
theorem dX3_lay_78 : decode cX3_lay 78 = .ok (.invokestatic 28, 3) := by decide +kernel
theorem dX3_lay_81 : decode cX3_lay 81 = .ok (.ldc2_w 36, 3) := by decide +kernel
theorem dX3_lay_84 : decode cX3_lay 84 = .ok (.lxor, 1) := by decide +kernel
theorem dX3_lay_85 : decode cX3_lay 85 = .ok (.land, 1) := by decide +kernel
theorem dX3_lay_86 : decode cX3_lay 86 = .ok (.lstore 7, 2) := by decide +kernel
theorem dX3_lay_88 : decode cX3_lay 88 = .ok (.goto 19, 3) := by decide +kernel
theorem dX3_lay_91 : decode cX3_lay 91 = .ok (.aload_n 0, 1) := by decide +kernel
theorem dX3_lay_92 : decode cX3_lay 92 = .ok (.dup, 1) := by decide +kernel
theorem dX3_lay_93 : decode cX3_lay 93 = .ok (.getfield 38, 3) := by decide +kernel
theorem dX3_lay_96 : decode cX3_lay 96 = .ok (.aload_n 2, 1) := by decide +kernel
theorem dX3_lay_97 : decode cX3_lay 97 = .ok (.iload 9, 2) := by decide +kernel
theorem dX3_lay_99 : decode cX3_lay 99 = .ok (.iaload, 1) := by decide +kernel
theorem dX3_lay_100 : decode cX3_lay 100 = .ok (.invokestatic 28, 3) := by decide +kernel
theorem dX3_lay_103 : decode cX3_lay 103 = .ok (.lor, 1) := by decide +kernel
theorem dX3_lay_104 : decode cX3_lay 104 = .ok (.putfield 38, 3) := by decide +kernel
theorem dX3_lay_107 : decode cX3_lay 107 = .ok (.iinc 9 1, 3) := by decide +kernel
theorem dX3_lay_110 : decode cX3_lay 110 = .ok (.goto (-73), 3) := by decide +kernel
theorem dX3_lay_113 : decode cX3_lay 113 = .ok (.aload_n 0, 1) := by decide +kernel
theorem dX3_lay_114 : decode cX3_lay 114 = .ok (.aload_n 0, 1) := by decide +kernel
theorem dX3_lay_115 : decode cX3_lay 115 = .ok (.getfield 38, 3) := by decide +kernel
theorem dX3_lay_118 : decode cX3_lay 118 = .ok (.aload_n 1, 1) := by decide +kernel
theorem dX3_lay_119 : decode cX3_lay 119 = .ok (.getfield 47, 3) := by decide +kernel
theorem dX3_lay_122 : decode cX3_lay 122 = .ok (.lor, 1) := by decide +kernel
theorem dX3_lay_123 : decode cX3_lay 123 = .ok (.putfield 50, 3) := by decide +kernel
theorem dX3_lay_126 : decode cX3_lay 126 = .ok (.aload_n 0, 1) := by decide +kernel
theorem dX3_lay_127 : decode cX3_lay 127 = .ok (.getfield 15, 3) := by decide +kernel
theorem dX3_lay_130 : decode cX3_lay 130 = .ok (.iconst 0, 1) := by decide +kernel
theorem dX3_lay_131 : decode cX3_lay 131 = .ok (.aload_n 1, 1) := by decide +kernel
theorem dX3_lay_132 : decode cX3_lay 132 = .ok (.getfield 19, 3) := by decide +kernel
theorem dX3_lay_135 : decode cX3_lay 135 = .ok (.ineg, 1) := by decide +kernel
theorem dX3_lay_136 : decode cX3_lay 136 = .ok (.iastore, 1) := by decide +kernel
theorem dX3_lay_137 : decode cX3_lay 137 = .ok (.aload_n 0, 1) := by decide +kernel
theorem dX3_lay_138 : decode cX3_lay 138 = .ok (.getfield 15, 3) := by decide +kernel
theorem dX3_lay_141 : decode cX3_lay 141 = .ok (.iconst 1, 1) := by decide +kernel
theorem dX3_lay_142 : decode cX3_lay 142 = .ok (.iconst 1, 1) := by decide +kernel
theorem dX3_lay_143 : decode cX3_lay 143 = .ok (.iastore, 1) := by decide +kernel
theorem dX3_lay_144 : decode cX3_lay 144 = .ok (.aload_n 0, 1) := by decide +kernel
theorem dX3_lay_145 : decode cX3_lay 145 = .ok (.getfield 15, 3) := by decide +kernel
theorem dX3_lay_148 : decode cX3_lay 148 = .ok (.iconst 2, 1) := by decide +kernel
theorem dX3_lay_149 : decode cX3_lay 149 = .ok (.aload_n 1, 1) := by decide +kernel
theorem dX3_lay_150 : decode cX3_lay 150 = .ok (.getfield 19, 3) := by decide +kernel
theorem dX3_lay_153 : decode cX3_lay 153 = .ok (.iastore, 1) := by decide +kernel
theorem dX3_lay_154 : decode cX3_lay 154 = .ok (.aload_n 0, 1) := by decide +kernel
theorem dX3_lay_155 : decode cX3_lay 155 = .ok (.getfield 15, 3) := by decide +kernel
theorem dX3_lay_158 : decode cX3_lay 158 = .ok (.iconst 3, 1) := by decide +kernel
theorem dX3_lay_159 : decode cX3_lay 159 = .ok (.iconst (-1), 1) := by decide +kernel
theorem dX3_lay_160 : decode cX3_lay 160 = .ok (.iastore, 1) := by decide +kernel
theorem dX3_lay_161 : decode cX3_lay 161 = .ok (.aload_n 0, 1) := by decide +kernel
theorem dX3_lay_162 : decode cX3_lay 162 = .ok (.aload_n 1, 1) := by decide +kernel
theorem dX3_lay_163 : decode cX3_lay 163 = .ok (.lload 5, 2) := by decide +kernel
theorem dX3_lay_165 : decode cX3_lay 165 = .ok (.lload 7, 2) := by decide +kernel
theorem dX3_lay_167 : decode cX3_lay 167 = .ok (.invokevirtual 53, 3) := by decide +kernel
theorem dX3_lay_170 : decode cX3_lay 170 = .ok (.return_, 1) := by decide +kernel
theorem dX3_stepTo_0 : decode cX3_stepTo 0 = .ok (.aload_n 0, 1) := by decide +kernel
theorem dX3_stepTo_1 : decode cX3_stepTo 1 = .ok (.getfield 9, 3) := by decide +kernel
theorem dX3_stepTo_4 : decode cX3_stepTo 4 = .ok (.iload_n 2, 1) := by decide +kernel
theorem dX3_stepTo_5 : decode cX3_stepTo 5 = .ok (.laload, 1) := by decide +kernel
theorem dX3_stepTo_6 : decode cX3_stepTo 6 = .ok (.iload_n 1, 1) := by decide +kernel
theorem dX3_stepTo_7 : decode cX3_stepTo 7 = .ok (.invokestatic 60, 3) := by decide +kernel
theorem dX3_stepTo_10 : decode cX3_stepTo 10 = .ok (.ifCond .eq 14, 3) := by decide +kernel
theorem dX3_stepTo_13 : decode cX3_stepTo 13 = .ok (.iload_n 1, 1) := by decide +kernel
theorem dX3_stepTo_14 : decode cX3_stepTo 14 = .ok (.aload_n 0, 1) := by decide +kernel
theorem dX3_stepTo_15 : decode cX3_stepTo 15 = .ok (.getfield 15, 3) := by decide +kernel
theorem dX3_stepTo_18 : decode cX3_stepTo 18 = .ok (.iload_n 2, 1) := by decide +kernel
theorem dX3_stepTo_19 : decode cX3_stepTo 19 = .ok (.iaload, 1) := by decide +kernel
theorem dX3_stepTo_20 : decode cX3_stepTo 20 = .ok (.iadd, 1) := by decide +kernel
theorem dX3_stepTo_21 : decode cX3_stepTo 21 = .ok (.goto 4, 3) := by decide +kernel
theorem dX3_stepTo_24 : decode cX3_stepTo 24 = .ok (.iconst (-1), 1) := by decide +kernel
theorem dX3_stepTo_25 : decode cX3_stepTo 25 = .ok (.ireturn, 1) := by decide +kernel
theorem dX7_isStanding_0 : decode cX7_isStanding 0 = .ok (.aload_n 0, 1) := by decide +kernel
theorem dX7_isStanding_1 : decode cX7_isStanding 1 = .ok (.getfield 18, 3) := by decide +kernel
theorem dX7_isStanding_4 : decode cX7_isStanding 4 = .ok (.getfield 40, 3) := by decide +kernel
theorem dX7_isStanding_7 : decode cX7_isStanding 7 = .ok (.iload_n 1, 1) := by decide +kernel
theorem dX7_isStanding_8 : decode cX7_isStanding 8 = .ok (.iaload, 1) := by decide +kernel
theorem dX7_isStanding_9 : decode cX7_isStanding 9 = .ok (.iload_n 2, 1) := by decide +kernel
theorem dX7_isStanding_10 : decode cX7_isStanding 10 = .ok (.if_icmp .ne 17, 3) := by decide +kernel
theorem dX7_isStanding_13 : decode cX7_isStanding 13 = .ok (.aload_n 0, 1) := by decide +kernel
theorem dX7_isStanding_14 : decode cX7_isStanding 14 = .ok (.getfield 9, 3) := by decide +kernel
theorem dX7_isStanding_17 : decode cX7_isStanding 17 = .ok (.iload_n 1, 1) := by decide +kernel
theorem dX7_isStanding_18 : decode cX7_isStanding 18 = .ok (.iaload, 1) := by decide +kernel
theorem dX7_isStanding_19 : decode cX7_isStanding 19 = .ok (.iconst (-1), 1) := by decide +kernel
theorem dX7_isStanding_20 : decode cX7_isStanding 20 = .ok (.if_icmp .eq 7, 3) := by decide +kernel
theorem dX7_isStanding_23 : decode cX7_isStanding 23 = .ok (.iconst 1, 1) := by decide +kernel
theorem dX7_isStanding_24 : decode cX7_isStanding 24 = .ok (.goto 4, 3) := by decide +kernel
theorem dX7_isStanding_27 : decode cX7_isStanding 27 = .ok (.iconst 0, 1) := by decide +kernel
theorem dX7_isStanding_28 : decode cX7_isStanding 28 = .ok (.ireturn, 1) := by decide +kernel
theorem dX7_nextMan_0 : decode cX7_nextMan 0 = .ok (.iconst (-1), 1) := by decide +kernel
theorem dX7_nextMan_1 : decode cX7_nextMan 1 = .ok (.istore_n 2, 1) := by decide +kernel
theorem dX7_nextMan_2 : decode cX7_nextMan 2 = .ok (.aload_n 0, 1) := by decide +kernel
theorem dX7_nextMan_3 : decode cX7_nextMan 3 = .ok (.getfield 18, 3) := by decide +kernel
theorem dX7_nextMan_6 : decode cX7_nextMan 6 = .ok (.getfield 43, 3) := by decide +kernel
theorem dX7_nextMan_9 : decode cX7_nextMan 9 = .ok (.iconst 1, 1) := by decide +kernel
theorem dX7_nextMan_10 : decode cX7_nextMan 10 = .ok (.isub, 1) := by decide +kernel
theorem dX7_nextMan_11 : decode cX7_nextMan 11 = .ok (.istore_n 3, 1) := by decide +kernel
theorem dX7_nextMan_12 : decode cX7_nextMan 12 = .ok (.iload_n 3, 1) := by decide +kernel
theorem dX7_nextMan_13 : decode cX7_nextMan 13 = .ok (.ifCond .lt 20, 3) := by decide +kernel
theorem dX7_nextMan_16 : decode cX7_nextMan 16 = .ok (.aload_n 0, 1) := by decide +kernel
theorem dX7_nextMan_17 : decode cX7_nextMan 17 = .ok (.iload_n 3, 1) := by decide +kernel
theorem dX7_nextMan_18 : decode cX7_nextMan 18 = .ok (.iload_n 1, 1) := by decide +kernel
theorem dX7_nextMan_19 : decode cX7_nextMan 19 = .ok (.invokevirtual 46, 3) := by decide +kernel
theorem dX7_nextMan_22 : decode cX7_nextMan 22 = .ok (.ifCond .eq 5, 3) := by decide +kernel
theorem dX7_nextMan_25 : decode cX7_nextMan 25 = .ok (.iload_n 3, 1) := by decide +kernel
theorem dX7_nextMan_26 : decode cX7_nextMan 26 = .ok (.istore_n 2, 1) := by decide +kernel
theorem dX7_nextMan_27 : decode cX7_nextMan 27 = .ok (.iinc 3 (-1), 3) := by decide +kernel
theorem dX7_nextMan_30 : decode cX7_nextMan 30 = .ok (.goto (-18), 3) := by decide +kernel
theorem dX7_nextMan_33 : decode cX7_nextMan 33 = .ok (.aload_n 0, 1) := by decide +kernel
theorem dX7_nextMan_34 : decode cX7_nextMan 34 = .ok (.getfield 15, 3) := by decide +kernel
theorem dX7_nextMan_37 : decode cX7_nextMan 37 = .ok (.iload_n 1, 1) := by decide +kernel
theorem dX7_nextMan_38 : decode cX7_nextMan 38 = .ok (.iaload, 1) := by decide +kernel
theorem dX7_nextMan_39 : decode cX7_nextMan 39 = .ok (.iconst 1, 1) := by decide +kernel
theorem dX7_nextMan_40 : decode cX7_nextMan 40 = .ok (.iadd, 1) := by decide +kernel
theorem dX7_nextMan_41 : decode cX7_nextMan 41 = .ok (.istore_n 3, 1) := by decide +kernel
theorem dX7_nextMan_42 : decode cX7_nextMan 42 = .ok (.iload_n 3, 1) := by decide +kernel
theorem dX7_nextMan_43 : decode cX7_nextMan 43 = .ok (.aload_n 0, 1) := by decide +kernel
theorem dX7_nextMan_44 : decode cX7_nextMan 44 = .ok (.getfield 18, 3) := by decide +kernel
theorem dX7_nextMan_47 : decode cX7_nextMan 47 = .ok (.getfield 43, 3) := by decide +kernel
theorem dX7_nextMan_50 : decode cX7_nextMan 50 = .ok (.if_icmp .ge 20, 3) := by decide +kernel
theorem dX7_nextMan_53 : decode cX7_nextMan 53 = .ok (.aload_n 0, 1) := by decide +kernel
theorem dX7_nextMan_54 : decode cX7_nextMan 54 = .ok (.iload_n 3, 1) := by decide +kernel
theorem dX7_nextMan_55 : decode cX7_nextMan 55 = .ok (.iload_n 1, 1) := by decide +kernel
theorem dX7_nextMan_56 : decode cX7_nextMan 56 = .ok (.invokevirtual 46, 3) := by decide +kernel
theorem dX7_nextMan_59 : decode cX7_nextMan 59 = .ok (.ifCond .eq 5, 3) := by decide +kernel
theorem dX7_nextMan_62 : decode cX7_nextMan 62 = .ok (.iload_n 3, 1) := by decide +kernel
theorem dX7_nextMan_63 : decode cX7_nextMan 63 = .ok (.ireturn, 1) := by decide +kernel
theorem dX7_nextMan_64 : decode cX7_nextMan 64 = .ok (.iinc 3 1, 3) := by decide +kernel
theorem dX7_nextMan_67 : decode cX7_nextMan 67 = .ok (.goto (-25), 3) := by decide +kernel
theorem dX7_nextMan_70 : decode cX7_nextMan 70 = .ok (.iload_n 2, 1) := by decide +kernel
theorem dX7_nextMan_71 : decode cX7_nextMan 71 = .ok (.ireturn, 1) := by decide +kernel
theorem dX0_hasMan_0 : decode cX0_hasMan 0 = .ok (.iload_n 1, 1) := by decide +kernel
theorem dX0_hasMan_1 : decode cX0_hasMan 1 = .ok (.ifCond .lt 15, 3) := by decide +kernel
theorem dX0_hasMan_4 : decode cX0_hasMan 4 = .ok (.iload_n 1, 1) := by decide +kernel
theorem dX0_hasMan_5 : decode cX0_hasMan 5 = .ok (.aload_n 0, 1) := by decide +kernel
theorem dX0_hasMan_6 : decode cX0_hasMan 6 = .ok (.getfield 32, 3) := by decide +kernel
theorem dX0_hasMan_9 : decode cX0_hasMan 9 = .ok (.if_icmp .ge 7, 3) := by decide +kernel
theorem dX0_hasMan_12 : decode cX0_hasMan 12 = .ok (.iconst 1, 1) := by decide +kernel
theorem dX0_hasMan_13 : decode cX0_hasMan 13 = .ok (.goto 4, 3) := by decide +kernel
theorem dX0_hasMan_16 : decode cX0_hasMan 16 = .ok (.iconst 0, 1) := by decide +kernel
theorem dX0_hasMan_17 : decode cX0_hasMan 17 = .ok (.ireturn, 1) := by decide +kernel
theorem dX0_copy_0 : decode cX0_copy 0 = .ok (.aload_n 0, 1) := by decide +kernel
theorem dX0_copy_1 : decode cX0_copy 1 = .ok (.aload_n 1, 1) := by decide +kernel
theorem dX0_copy_2 : decode cX0_copy 2 = .ok (.getfield 18, 3) := by decide +kernel
theorem dX0_copy_5 : decode cX0_copy 5 = .ok (.putfield 18, 3) := by decide +kernel
theorem dX0_copy_8 : decode cX0_copy 8 = .ok (.aload_n 0, 1) := by decide +kernel
theorem dX0_copy_9 : decode cX0_copy 9 = .ok (.aload_n 1, 1) := by decide +kernel
theorem dX0_copy_10 : decode cX0_copy 10 = .ok (.getfield 22, 3) := by decide +kernel
theorem dX0_copy_13 : decode cX0_copy 13 = .ok (.putfield 22, 3) := by decide +kernel
theorem dX0_copy_16 : decode cX0_copy 16 = .ok (.aload_n 0, 1) := by decide +kernel
theorem dX0_copy_17 : decode cX0_copy 17 = .ok (.aload_n 1, 1) := by decide +kernel
theorem dX0_copy_18 : decode cX0_copy 18 = .ok (.getfield 25, 3) := by decide +kernel
theorem dX0_copy_21 : decode cX0_copy 21 = .ok (.putfield 25, 3) := by decide +kernel
theorem dX0_copy_24 : decode cX0_copy 24 = .ok (.aload_n 0, 1) := by decide +kernel
theorem dX0_copy_25 : decode cX0_copy 25 = .ok (.aload_n 1, 1) := by decide +kernel
theorem dX0_copy_26 : decode cX0_copy 26 = .ok (.getfield 29, 3) := by decide +kernel
theorem dX0_copy_29 : decode cX0_copy 29 = .ok (.putfield 29, 3) := by decide +kernel
theorem dX0_copy_32 : decode cX0_copy 32 = .ok (.aload_n 0, 1) := by decide +kernel
theorem dX0_copy_33 : decode cX0_copy 33 = .ok (.aload_n 1, 1) := by decide +kernel
theorem dX0_copy_34 : decode cX0_copy 34 = .ok (.getfield 32, 3) := by decide +kernel
theorem dX0_copy_37 : decode cX0_copy 37 = .ok (.putfield 32, 3) := by decide +kernel
theorem dX0_copy_40 : decode cX0_copy 40 = .ok (.aload_n 1, 1) := by decide +kernel
theorem dX0_copy_41 : decode cX0_copy 41 = .ok (.getfield 9, 3) := by decide +kernel
theorem dX0_copy_44 : decode cX0_copy 44 = .ok (.iconst 0, 1) := by decide +kernel
theorem dX0_copy_45 : decode cX0_copy 45 = .ok (.aload_n 0, 1) := by decide +kernel
theorem dX0_copy_46 : decode cX0_copy 46 = .ok (.getfield 9, 3) := by decide +kernel
theorem dX0_copy_49 : decode cX0_copy 49 = .ok (.iconst 0, 1) := by decide +kernel
theorem dX0_copy_50 : decode cX0_copy 50 = .ok (.bipush 6, 2) := by decide +kernel
theorem dX0_copy_52 : decode cX0_copy 52 = .ok (.invokestatic 35, 3) := by decide +kernel
theorem dX0_copy_55 : decode cX0_copy 55 = .ok (.aload_n 1, 1) := by decide +kernel
theorem dX0_copy_56 : decode cX0_copy 56 = .ok (.getfield 15, 3) := by decide +kernel
theorem dX0_copy_59 : decode cX0_copy 59 = .ok (.iconst 0, 1) := by decide +kernel
theorem dX0_copy_60 : decode cX0_copy 60 = .ok (.aload_n 0, 1) := by decide +kernel
theorem dX0_copy_61 : decode cX0_copy 61 = .ok (.getfield 15, 3) := by decide +kernel
theorem dX0_copy_64 : decode cX0_copy 64 = .ok (.iconst 0, 1) := by decide +kernel
theorem dX0_copy_65 : decode cX0_copy 65 = .ok (.bipush 6, 2) := by decide +kernel
theorem dX0_copy_67 : decode cX0_copy 67 = .ok (.invokestatic 35, 3) := by decide +kernel
theorem dX0_copy_70 : decode cX0_copy 70 = .ok (.return_, 1) := by decide +kernel
set_option maxHeartbeats 4000000 in
set_option maxRecDepth 100000 in
theorem xf_bit {D : va_G} {ad : Nat → Nat} {cA : Nat → ClassId} {X : XT} {f : Int} : MetX (wX D ad cA) yX11_bit cX11_bit 1 (some .long) 0 0 [.int (iI (f))] X (fun r X' => X' = X ∧ r = some (.long ((1 : Int64) <<< ((iI f).toInt64 &&& 63)))) := by
  refine MetX.mk (own := RX11) (by decide +kernel) rfl (nle rfl) (fun E C hQ => ?_)
  refine Wx_lv (lv' := [(0, .int (iI (f)))]) rfl ?_
  refine x_lconst C dX11_bit_0 ?_
  refine x_eqL (b := 1) rfl ?_
  refine x_iload_n (i := 0) C dX11_bit_1 rfl rfl ?_
  refine x_lshl C dX11_bit_2 ?_
  refine x_genL (fun l1 el1 => ?_)
  exact x_lret C hQ dX11_bit_3 (⟨rfl, by rw [el1]⟩)
set_option maxHeartbeats 4000000 in
set_option maxRecDepth 100000 in
theorem xf_has {D : va_G} {ad : Nat → Nat} {cA : Nat → ClassId} {X : XT} {z : Int64} {i : Int} : MetX (wX D ad cA) yX11_has cX11_has 3 (some .boolean) 0 0 [.long (z), .int (iI (i))] X (fun r X' => X' = X ∧ ∃ u : Int, r = some (.int (iI u)) ∧ u = zB (tb z (i % 64).toNat)) := by
  refine MetX.mk (own := RX11) (by decide +kernel) rfl (nle rfl) (fun E C hQ => ?_)
  refine Wx_lv (lv' := [(0, .long (z)), (2, .int (iI (i)))]) rfl ?_
  refine x_lload_n (i := 0) C dX11_has_0 rfl rfl ?_
  refine x_iload_n (i := 2) C dX11_has_1 rfl rfl ?_
  refine x_lushr C dX11_has_2 ?_
  refine x_genL (fun l1 el1 => ?_)
  refine x_lconst C dX11_has_3 ?_
  refine x_eqL (b := 1) rfl ?_
  refine x_land C dX11_has_4 ?_
  refine x_genL (fun l2 el2 => ?_)
  refine x_lconst C dX11_has_5 ?_
  refine x_eqL (b := 0) rfl ?_
  refine x_lcmp C dX11_has_6 ?_
  refine x_topi (fun v3 rv3 ev3 => ?_)
  have cv3 := lcmp_iff rv3 ev3
  unfold inR at rv3
  refine x_if_eq (tgt := 14) C dX11_has_7 (by decide) ⟨by omega, by omega⟩ (fun h4 => ?_) (fun h4 => ?_)
  · refine x_iconst C dX11_has_14 ?_
    exact x_zret C hQ (by omega) dX11_has_15 (⟨rfl, _, rfl, zB_f (hasU_iff.mp (by rw [← el1, ← el2]; exact cv3.1.mp (by omega)))⟩)
  · refine x_iconst C dX11_has_10 ?_
    refine x_goto (tgt := 15) C dX11_has_11 (by decide) ?_
    exact x_zret C hQ (by omega) dX11_has_15 (⟨rfl, _, rfl, zB_t (by rw [← Bool.not_eq_false]; exact fun hh => absurd (cv3.1.mpr (by rw [el2, el1]; exact hasU_iff.mpr hh)) (by omega))⟩)
abbrev mdLN45 : List (Nat × Option Nat) := [(46, none), (45, some 3)]
set_option maxHeartbeats 4000000 in
set_option maxRecDepth 100000 in
theorem xl_layN45_7 {D : va_G} {ad : Nat → Nat} {cA : Nat → ClassId} {X : XT} {all op : Int64} (hH : HG vX X) (hF : FR mdLN45 X X) {E : ET} (C : CX E (wX D ad cA) cX3_layNeighbours 10 RX3 none { frames := 1, cells := 0, slots := 0, locals := 20 }) (hQ : EQ E (wX D ad cA) (fun r X1 => r = none ∧ HG vX X1 ∧ FR mdLN45 X X1 ∧ (∀ j, j < 64 → tb (X1.2.1 46 0) j = true → (X.1 7 0 ≤ (j : Int) ∧ tb op (j - (X.1 7 0).toNat) = true)) ∧ (∀ j, j < 64 → tb (X1.2.1 46 1) j = true → tb op (j + 1) = true) ∧ (∀ j, j < 64 → tb (X1.2.1 46 2) j = true → tb op ((X.1 7 0).toNat + j) = true) ∧ (∀ j, j < 64 → tb (X1.2.1 46 3) j = true → (1 ≤ (j : Int) ∧ tb op (j - 1) = true)))) : ∀ (n : Nat) (i : Int) (we : Int64), 6 - i < n → 0 ≤ i → i ≤ 6 → Wx E (wX D ad cA) 10 (PX (wX D ad cA) X) 6 [(8, .int (iI (i))), (6, .long (we)), (0, .ref 45), (1, .ref 7), (2, .long (all)), (4, .long (op))] [] := by
  intro n
  induction n with
  | zero => intro i we hn i0 i1; exfalso; omega
  | succ n ih =>
    intro i we hn i0 i1
    refine x_iload C dX3_layNeighbours_6 rfl ?_
    refine x_aload_n (i := 1) C dX3_layNeighbours_8 rfl rfl ?_
    refine x_getI C fkX_X3_25 (nlt rfl) rfl dX3_layNeighbours_9 ?_
    refine x_gen (fun v1 ev1 => ?_)
    have qv1 : (0 : Int) ≤ v1 ∧ v1 ≤ (6 : Int) := by
      rw [ev1]
      exact hH.rF (k := 7) (i := 1) rfl rfl
    refine x_icmp_ge (tgt := 36) C dX3_layNeighbours_12 (by decide) ⟨by omega, by omega⟩ ⟨by omega, by omega⟩ (fun h2 => ?_) (fun h2 => ?_)
    · refine x_lload C dX3_layNeighbours_36 rfl ?_
      refine x_aload_n (i := 1) C dX3_layNeighbours_38 rfl rfl ?_
      refine x_getI C fkX_X3_19 (nlt rfl) rfl dX3_layNeighbours_39 ?_
      refine x_gen (fun v3 ev3 => ?_)
      have qv3 : (0 : Int) ≤ v3 ∧ v3 ≤ (6 : Int) := by
        rw [ev3]
        exact hH.rF (k := 7) (i := 0) rfl rfl
      refine x_iconst C dX3_layNeighbours_42 ?_
      refine x_isub C dX3_layNeighbours_43 ?_
      refine x_lshl C dX3_layNeighbours_44 ?_
      refine x_genL (fun l4 el4 => ?_)
      refine x_lstore (lv' := [(8, .long (l4)), (6, .long (we)), (0, .ref 45), (1, .ref 7), (2, .long (all)), (4, .long (op))]) C dX3_layNeighbours_45 (nlt rfl) rfl ?_
      refine x_aload_n (i := 0) C dX3_layNeighbours_47 rfl rfl ?_
      refine x_getRs (r := 46) C fkX_X3_9 (nlt rfl) rfl (HG.rR hH (k := 45) (i := 0) rfl rfl) dX3_layNeighbours_48 ?_
      refine x_iconst C dX3_layNeighbours_51 ?_
      refine x_lload C dX3_layNeighbours_52 rfl ?_
      refine x_aload_n (i := 1) C dX3_layNeighbours_54 rfl rfl ?_
      refine x_getI C fkX_X3_19 (nlt rfl) rfl dX3_layNeighbours_55 ?_
      refine x_gen (fun v5 ev5 => ?_)
      have qv5 : (0 : Int) ≤ v5 ∧ v5 ≤ (6 : Int) := by
        rw [ev5]
        exact hH.rF (k := 7) (i := 0) rfl rfl
      refine x_lshl C dX3_layNeighbours_58 ?_
      refine x_genL (fun l6 el6 => ?_)
      refine x_lload_n (i := 2) C dX3_layNeighbours_59 rfl rfl ?_
      refine x_land C dX3_layNeighbours_60 ?_
      refine x_genL (fun l7 el7 => ?_)
      refine x_last C (nlt rfl) rfl rfl (nle rfl) (by omega) (by omega) dX3_layNeighbours_61 ?_
      refine x_gX (fun Yy8 eYy8 => ?_)
      have hHy8 : HG vX Yy8 := by
        rw [eYy8]
        exact hg_wLA hH (n := 4) (p := ((-9223372036854775808), 9223372036854775807)) (by decide +kernel) (by omega) (l64 _)
      have hFy8 : FR mdLN45 X Yy8 := by
        rw [eYy8]
        exact FR.upL hF (rfl)
      replace eYy8 : Yy8 = upL X 46 0 (l7) := eYy8
      refine x_aload_n (i := 0) C dX3_layNeighbours_62 rfl rfl ?_
      refine x_getRs (r := 46) C fkX_X3_9 (nlt rfl) rfl (HG.rR hHy8 (k := 45) (i := 0) rfl rfl) dX3_layNeighbours_63 ?_
      refine x_iconst C dX3_layNeighbours_66 ?_
      refine x_lload C dX3_layNeighbours_67 rfl ?_
      refine x_lload C dX3_layNeighbours_69 rfl ?_
      refine x_ldc2 C dX3_layNeighbours_71 cnX3_36 ?_
      refine x_lxor C dX3_layNeighbours_74 ?_
      refine x_genL (fun l9 el9 => ?_)
      refine x_land C dX3_layNeighbours_75 ?_
      refine x_genL (fun l10 el10 => ?_)
      refine x_iconst C dX3_layNeighbours_76 ?_
      refine x_lushr C dX3_layNeighbours_77 ?_
      refine x_genL (fun l11 el11 => ?_)
      refine x_last C (nlt rfl) rfl rfl (nle rfl) (by omega) (by omega) dX3_layNeighbours_78 ?_
      refine x_gX (fun Yy12 eYy12 => ?_)
      have hHy12 : HG vX Yy12 := by
        rw [eYy12]
        exact hg_wLA hHy8 (n := 4) (p := ((-9223372036854775808), 9223372036854775807)) (by decide +kernel) (by omega) (l64 _)
      have hFy12 : FR mdLN45 X Yy12 := by
        rw [eYy12]
        exact FR.upL hFy8 (rfl)
      replace eYy12 : Yy12 = upL Yy8 46 1 (l11) := eYy12
      refine x_aload_n (i := 0) C dX3_layNeighbours_79 rfl rfl ?_
      refine x_getRs (r := 46) C fkX_X3_9 (nlt rfl) rfl (HG.rR hHy12 (k := 45) (i := 0) rfl rfl) dX3_layNeighbours_80 ?_
      refine x_iconst C dX3_layNeighbours_83 ?_
      refine x_lload C dX3_layNeighbours_84 rfl ?_
      refine x_aload_n (i := 1) C dX3_layNeighbours_86 rfl rfl ?_
      refine x_getI C fkX_X3_19 (nlt rfl) rfl dX3_layNeighbours_87 ?_
      refine x_gen (fun v13 ev13 => ?_)
      have qv13 : (0 : Int) ≤ v13 ∧ v13 ≤ (6 : Int) := by
        rw [ev13]
        exact hHy12.rF (k := 7) (i := 0) rfl rfl
      refine x_lushr C dX3_layNeighbours_90 ?_
      refine x_genL (fun l14 el14 => ?_)
      refine x_last C (nlt rfl) rfl rfl (nle rfl) (by omega) (by omega) dX3_layNeighbours_91 ?_
      refine x_gX (fun Yy15 eYy15 => ?_)
      have hHy15 : HG vX Yy15 := by
        rw [eYy15]
        exact hg_wLA hHy12 (n := 4) (p := ((-9223372036854775808), 9223372036854775807)) (by decide +kernel) (by omega) (l64 _)
      have hFy15 : FR mdLN45 X Yy15 := by
        rw [eYy15]
        exact FR.upL hFy12 (rfl)
      replace eYy15 : Yy15 = upL Yy12 46 2 (l14) := eYy15
      refine x_aload_n (i := 0) C dX3_layNeighbours_92 rfl rfl ?_
      refine x_getRs (r := 46) C fkX_X3_9 (nlt rfl) rfl (HG.rR hHy15 (k := 45) (i := 0) rfl rfl) dX3_layNeighbours_93 ?_
      refine x_iconst C dX3_layNeighbours_96 ?_
      refine x_lload C dX3_layNeighbours_97 rfl ?_
      refine x_lload C dX3_layNeighbours_99 rfl ?_
      refine x_ldc2 C dX3_layNeighbours_101 cnX3_36 ?_
      refine x_lxor C dX3_layNeighbours_104 ?_
      refine x_genL (fun l16 el16 => ?_)
      refine x_land C dX3_layNeighbours_105 ?_
      refine x_genL (fun l17 el17 => ?_)
      refine x_iconst C dX3_layNeighbours_106 ?_
      refine x_lshl C dX3_layNeighbours_107 ?_
      refine x_genL (fun l18 el18 => ?_)
      refine x_last C (nlt rfl) rfl rfl (nle rfl) (by omega) (by omega) dX3_layNeighbours_108 ?_
      refine x_gX (fun Yy19 eYy19 => ?_)
      have hHy19 : HG vX Yy19 := by
        rw [eYy19]
        exact hg_wLA hHy15 (n := 4) (p := ((-9223372036854775808), 9223372036854775807)) (by decide +kernel) (by omega) (l64 _)
      have hFy19 : FR mdLN45 X Yy19 := by
        rw [eYy19]
        exact FR.upL hFy15 (rfl)
      replace eYy19 : Yy19 = upL Yy15 46 3 (l18) := eYy19
      refine x_aload_n (i := 0) C dX3_layNeighbours_109 rfl rfl ?_
      refine x_aload_n (i := 0) C dX3_layNeighbours_110 rfl rfl ?_
      refine x_getL C fkX_X3_38 (nlt rfl) rfl dX3_layNeighbours_111 ?_
      refine x_genL (fun l20 el20 => ?_)
      refine x_aload_n (i := 1) C dX3_layNeighbours_114 rfl rfl ?_
      refine x_getI C fkX_X3_19 (nlt rfl) rfl dX3_layNeighbours_115 ?_
      refine x_gen (fun v21 ev21 => ?_)
      have qv21 : (0 : Int) ≤ v21 ∧ v21 ≤ (6 : Int) := by
        rw [ev21]
        exact hHy19.rF (k := 7) (i := 0) rfl rfl
      refine x_lshl C dX3_layNeighbours_118 ?_
      refine x_genL (fun l22 el22 => ?_)
      refine x_lload_n (i := 2) C dX3_layNeighbours_119 rfl rfl ?_
      refine x_land C dX3_layNeighbours_120 ?_
      refine x_genL (fun l23 el23 => ?_)
      refine x_aload_n (i := 0) C dX3_layNeighbours_121 rfl rfl ?_
      refine x_getL C fkX_X3_38 (nlt rfl) rfl dX3_layNeighbours_122 ?_
      refine x_genL (fun l24 el24 => ?_)
      refine x_lload C dX3_layNeighbours_125 rfl ?_
      refine x_ldc2 C dX3_layNeighbours_127 cnX3_36 ?_
      refine x_lxor C dX3_layNeighbours_130 ?_
      refine x_genL (fun l25 el25 => ?_)
      refine x_land C dX3_layNeighbours_131 ?_
      refine x_genL (fun l26 el26 => ?_)
      refine x_iconst C dX3_layNeighbours_132 ?_
      refine x_lushr C dX3_layNeighbours_133 ?_
      refine x_genL (fun l27 el27 => ?_)
      refine x_lor C dX3_layNeighbours_134 ?_
      refine x_genL (fun l28 el28 => ?_)
      refine x_aload_n (i := 0) C dX3_layNeighbours_135 rfl rfl ?_
      refine x_getL C fkX_X3_38 (nlt rfl) rfl dX3_layNeighbours_136 ?_
      refine x_genL (fun l29 el29 => ?_)
      refine x_aload_n (i := 1) C dX3_layNeighbours_139 rfl rfl ?_
      refine x_getI C fkX_X3_19 (nlt rfl) rfl dX3_layNeighbours_140 ?_
      refine x_gen (fun v30 ev30 => ?_)
      have qv30 : (0 : Int) ≤ v30 ∧ v30 ≤ (6 : Int) := by
        rw [ev30]
        exact hHy19.rF (k := 7) (i := 0) rfl rfl
      refine x_lushr C dX3_layNeighbours_143 ?_
      refine x_genL (fun l31 el31 => ?_)
      refine x_lor C dX3_layNeighbours_144 ?_
      refine x_genL (fun l32 el32 => ?_)
      refine x_aload_n (i := 0) C dX3_layNeighbours_145 rfl rfl ?_
      refine x_getL C fkX_X3_38 (nlt rfl) rfl dX3_layNeighbours_146 ?_
      refine x_genL (fun l33 el33 => ?_)
      refine x_lload C dX3_layNeighbours_149 rfl ?_
      refine x_ldc2 C dX3_layNeighbours_151 cnX3_36 ?_
      refine x_lxor C dX3_layNeighbours_154 ?_
      refine x_genL (fun l34 el34 => ?_)
      refine x_land C dX3_layNeighbours_155 ?_
      refine x_genL (fun l35 el35 => ?_)
      refine x_iconst C dX3_layNeighbours_156 ?_
      refine x_lshl C dX3_layNeighbours_157 ?_
      refine x_genL (fun l36 el36 => ?_)
      refine x_lor C dX3_layNeighbours_158 ?_
      refine x_genL (fun l37 el37 => ?_)
      refine x_putL C pkX_X3_57 (nlt rfl) rfl dX3_layNeighbours_159 ?_
      refine x_gX (fun Yy38 eYy38 => ?_)
      have hHy38 : HG vX Yy38 := by
        rw [eYy38]
        exact hg_wLF hHy19 (p := ((-9223372036854775808), 9223372036854775807)) rfl (l64 _)
      have hFy38 : FR mdLN45 X Yy38 := by
        rw [eYy38]
        exact FR.upL hFy19 (rfl)
      replace eYy38 : Yy38 = upL Yy19 45 3 (l37) := eYy38
      exact x_vret C hQ dX3_layNeighbours_162 (⟨rfl, hHy38, hFy38, (by (have wv3 : v3 = X.1 7 0 := by rw [ev3]); (have wv5 : v5 = X.1 7 0 := by rw [ev5]); (have wv13 : v13 = X.1 7 0 := by rw [ev13, (hFy12 7 0 rfl).1]); (have wv21 : v21 = X.1 7 0 := by rw [ev21, (hFy19 7 0 rfl).1]); (have wv30 : v30 = X.1 7 0 := by rw [ev30, (hFy19 7 0 rfl).1]); (intro j hj ht); (rw [eYy38, upL_nc (by decide), eYy19, upL_ne (by decide), eYy15, upL_ne (by decide), eYy12, upL_ne (by decide), eYy8, upL_at] at ht); (rw [el7, tb_and, Bool.and_eq_true, el6, tb_shl] at ht); (have h1 := ht.1); (simp only [Bool.and_eq_true, Bool.not_eq_true', decide_eq_false_iff_not, decide_eq_true_eq] at h1); (have e1 : (v5 % 64).toNat = (X.1 7 0).toNat := by omega); (rw [e1] at h1); (exact ⟨by omega, h1.2.2⟩)), (by (have wv3 : v3 = X.1 7 0 := by rw [ev3]); (have wv5 : v5 = X.1 7 0 := by rw [ev5]); (have wv13 : v13 = X.1 7 0 := by rw [ev13, (hFy12 7 0 rfl).1]); (have wv21 : v21 = X.1 7 0 := by rw [ev21, (hFy19 7 0 rfl).1]); (have wv30 : v30 = X.1 7 0 := by rw [ev30, (hFy19 7 0 rfl).1]); (intro j hj ht); (rw [eYy38, upL_nc (by decide), eYy19, upL_ne (by decide), eYy15, upL_ne (by decide), eYy12, upL_at] at ht); (rw [el11, tb_ushr, el10, tb_and, Bool.and_eq_true] at ht); (rw [Nat.add_comm]); (exact ht.1)), (by (have wv3 : v3 = X.1 7 0 := by rw [ev3]); (have wv5 : v5 = X.1 7 0 := by rw [ev5]); (have wv13 : v13 = X.1 7 0 := by rw [ev13, (hFy12 7 0 rfl).1]); (have wv21 : v21 = X.1 7 0 := by rw [ev21, (hFy19 7 0 rfl).1]); (have wv30 : v30 = X.1 7 0 := by rw [ev30, (hFy19 7 0 rfl).1]); (intro j hj ht); (rw [eYy38, upL_nc (by decide), eYy19, upL_ne (by decide), eYy15, upL_at] at ht); (rw [el14, tb_ushr] at ht); (have e1 : (v13 % 64).toNat = (X.1 7 0).toNat := by omega); (rw [e1] at ht); (exact ht)), (by (have wv3 : v3 = X.1 7 0 := by rw [ev3]); (have wv5 : v5 = X.1 7 0 := by rw [ev5]); (have wv13 : v13 = X.1 7 0 := by rw [ev13, (hFy12 7 0 rfl).1]); (have wv21 : v21 = X.1 7 0 := by rw [ev21, (hFy19 7 0 rfl).1]); (have wv30 : v30 = X.1 7 0 := by rw [ev30, (hFy19 7 0 rfl).1]); (intro j hj ht); (rw [eYy38, upL_nc (by decide), eYy19, upL_at] at ht); (rw [el18, tb_shl, el17, tb_and] at ht); (simp only [Bool.and_eq_true, Bool.not_eq_true', decide_eq_false_iff_not, decide_eq_true_eq] at ht); (have h1 := ht.2); (exact ⟨by have := h1.1; have e1 : ((1 : Int) % 64).toNat = 1 := rfl; omega, h1.2.1⟩))⟩)
    · refine x_lload C dX3_layNeighbours_15 rfl ?_
      refine x_iload C dX3_layNeighbours_17 rfl ?_
      refine x_aload_n (i := 1) C dX3_layNeighbours_19 rfl rfl ?_
      refine x_getI C fkX_X3_19 (nlt rfl) rfl dX3_layNeighbours_20 ?_
      refine x_gen (fun v39 ev39 => ?_)
      have qv39 : (0 : Int) ≤ v39 ∧ v39 ≤ (6 : Int) := by
        rw [ev39]
        exact hH.rF (k := 7) (i := 0) rfl rfl
      refine x_imul C dX3_layNeighbours_23 ?_
      refine x_callSN (As := [.int (iI (i * v39))]) C (by exact (xf_bit (f := i * v39))) cnX3_28 rfl rfl (nle rfl) (by exact ⟨nle rfl, nle rfl⟩) dX3_layNeighbours_24 ?_
      rintro _ Xl40 ⟨hxl40, rfl⟩
      rw [hxl40]
      refine Wx_st (st' := [.long ((1 : Int64) <<< ((iI (i * v39)).toInt64 &&& 63)), .long (we)]) rfl ?_
      refine x_genL (fun l40 el40 => ?_)
      refine Wx_st (st' := [.long (l40), .long (we)]) rfl ?_
      refine x_lor C dX3_layNeighbours_27 ?_
      refine x_genL (fun l41 el41 => ?_)
      refine x_lstore (lv' := [(6, .long (l41)), (8, .int (iI (i))), (0, .ref 45), (1, .ref 7), (2, .long (all)), (4, .long (op))]) C dX3_layNeighbours_28 (nlt rfl) rfl ?_
      refine x_iinc (lv' := [(8, .int (iI (i + 1))), (6, .long (l41)), (0, .ref 45), (1, .ref 7), (2, .long (all)), (4, .long (op))]) C dX3_layNeighbours_30 rfl (nlt rfl) rfl ?_
      refine x_goto (tgt := 6) C dX3_layNeighbours_33 (by decide) ?_
      refine Wx_pick [8, 6, 0, 1, 2, 4] ?_
      refine Wx_lv (lv' := [(8, .int (iI (i + 1))), (6, .long (l41)), (0, .ref 45), (1, .ref 7), (2, .long (all)), (4, .long (op))]) rfl ?_
      exact ih _ _ (by omega) (by omega) (by omega)
set_option maxHeartbeats 4000000 in
set_option maxRecDepth 100000 in
theorem xf_layN45_7 {D : va_G} {ad : Nat → Nat} {cA : Nat → ClassId} {X : XT} {all op : Int64} (hH : HG vX X) (hF : FR mdLN45 X X) : MetX (wX D ad cA) yX3_layNeighbours cX3_layNeighbours 10 none 1 20 [.ref 45, .ref 7, .long (all), .long (op)] X (fun r X1 => r = none ∧ HG vX X1 ∧ FR mdLN45 X X1 ∧ (∀ j, j < 64 → tb (X1.2.1 46 0) j = true → (X.1 7 0 ≤ (j : Int) ∧ tb op (j - (X.1 7 0).toNat) = true)) ∧ (∀ j, j < 64 → tb (X1.2.1 46 1) j = true → tb op (j + 1) = true) ∧ (∀ j, j < 64 → tb (X1.2.1 46 2) j = true → tb op ((X.1 7 0).toNat + j) = true) ∧ (∀ j, j < 64 → tb (X1.2.1 46 3) j = true → (1 ≤ (j : Int) ∧ tb op (j - 1) = true))) := by
  refine MetX.mk (own := RX3) (by decide +kernel) rfl (nle rfl) (fun E C hQ => ?_)
  refine Wx_lv (lv' := [(0, .ref 45), (1, .ref 7), (2, .long (all)), (4, .long (op))]) rfl ?_
  refine x_lconst C dX3_layNeighbours_0 ?_
  refine x_eqL (b := 0) rfl ?_
  refine x_lstore (lv' := [(6, .long (0)), (0, .ref 45), (1, .ref 7), (2, .long (all)), (4, .long (op))]) C dX3_layNeighbours_1 (nlt rfl) rfl ?_
  refine x_iconst C dX3_layNeighbours_3 ?_
  refine x_istore (lv' := [(8, .int (iI (0))), (6, .long (0)), (0, .ref 45), (1, .ref 7), (2, .long (all)), (4, .long (op))]) C dX3_layNeighbours_4 (nlt rfl) rfl ?_
  refine Wx_pick [8, 6, 0, 1, 2, 4] ?_
  refine Wx_lv (lv' := [(8, .int (iI (0))), (6, .long (0)), (0, .ref 45), (1, .ref 7), (2, .long (all)), (4, .long (op))]) rfl ?_
  exact xl_layN45_7 hH hF C hQ 7 0 0 (by omega) (by omega) (by omega)
set_option maxHeartbeats 4000000 in
set_option maxRecDepth 100000 in
theorem xl_lay45_7_9 {D : va_G} {ad : Nat → Nat} {cA : Nat → ClassId} {X0 : XT} {all : Int64} {sd mn : Int} (ss : inR sd) (mm : inR mn) {E : ET} (C : CX E (wX D ad cA) cX3_lay 10 RX3 none { frames := 2, cells := 0, slots := 0, locals := 49 }) (hQ : EQ E (wX D ad cA) (fun r X1 => r = none ∧ HG vX X1 ∧ FR (cMd k_X_20) X0 X1 ∧ GOKP 46 47 X1)) : ∀ (n : Nat) (i : Int) (o : Int64) (X : XT), 6 - i < n → 0 ≤ i → i ≤ 6 → m36 o → HG vX X → FR (cMd k_X_20) X0 X → Wx E (wX D ad cA) 10 (PX (wX D ad cA) X) 37 [(9, .int (iI (i))), (7, .long (o)), (0, .ref 45), (1, .ref 7), (2, .ref 9), (3, .int (iI (sd))), (4, .int (iI (mn))), (5, .long (all))] [] := by
  intro n
  induction n with
  | zero => intro i o X hn i0 i1 om hH hF; exfalso; omega
  | succ n ih =>
    intro i o X hn i0 i1 om hH hF
    unfold inR at ss mm
    refine x_iload C dX3_lay_37 rfl ?_
    refine x_aload_n (i := 1) C dX3_lay_39 rfl rfl ?_
    refine x_getI C fkX_X3_41 (nlt rfl) rfl dX3_lay_40 ?_
    refine x_gen (fun v1 ev1 => ?_)
    have qv1 : (0 : Int) ≤ v1 ∧ v1 ≤ (6 : Int) := by
      rw [ev1]
      exact hH.rF (k := 7) (i := 4) rfl rfl
    refine x_icmp_ge (tgt := 113) C dX3_lay_43 (by decide) ⟨by omega, by omega⟩ ⟨by omega, by omega⟩ (fun h2 => ?_) (fun h2 => ?_)
    · refine x_aload_n (i := 0) C dX3_lay_113 rfl rfl ?_
      refine x_aload_n (i := 0) C dX3_lay_114 rfl rfl ?_
      refine x_getL C fkX_X3_38 (nlt rfl) rfl dX3_lay_115 ?_
      refine x_genL (fun l3 el3 => ?_)
      refine x_aload_n (i := 1) C dX3_lay_118 rfl rfl ?_
      refine x_getL C fkX_X3_47 (nlt rfl) rfl dX3_lay_119 ?_
      refine x_genL (fun l4 el4 => ?_)
      refine x_lor C dX3_lay_122 ?_
      refine x_genL (fun l5 el5 => ?_)
      refine x_putL C pkX_X3_50 (nlt rfl) rfl dX3_lay_123 ?_
      refine x_gX (fun Yy6 eYy6 => ?_)
      have hHy6 : HG vX Yy6 := by
        rw [eYy6]
        exact hg_wLF hH (p := ((-9223372036854775808), 9223372036854775807)) rfl (l64 _)
      have hFy6 : FR (cMd k_X_20) X0 Yy6 := by
        rw [eYy6]
        exact FR.upL hF (rfl)
      replace eYy6 : Yy6 = upL X 45 4 (l5) := eYy6
      refine x_aload_n (i := 0) C dX3_lay_126 rfl rfl ?_
      refine x_getRs (r := 47) C fkX_X3_15 (nlt rfl) rfl (HG.rR hHy6 (k := 45) (i := 1) rfl rfl) dX3_lay_127 ?_
      refine x_iconst C dX3_lay_130 ?_
      refine x_aload_n (i := 1) C dX3_lay_131 rfl rfl ?_
      refine x_getI C fkX_X3_19 (nlt rfl) rfl dX3_lay_132 ?_
      refine x_gen (fun v7 ev7 => ?_)
      have qv7 : (0 : Int) ≤ v7 ∧ v7 ≤ (6 : Int) := by
        rw [ev7]
        exact hHy6.rF (k := 7) (i := 0) rfl rfl
      have wv7 : v7 = X0.1 7 0 := by rw [ev7, (hFy6 7 0 rfl).1]
      refine x_ineg C dX3_lay_135 ?_
      refine x_iast C (nlt rfl) rfl rfl (nle rfl) (by omega) (by omega) dX3_lay_136 ?_
      refine x_gX (fun Yy8 eYy8 => ?_)
      have hHy8 : HG vX Yy8 := by
        rw [eYy8]
        exact hg_wA hHy6 (n := 4) (p := ((-6), 6)) (by decide +kernel) (by omega) ⟨by omega, by omega⟩
      have hFy8 : FR (cMd k_X_20) X0 Yy8 := by
        rw [eYy8]
        exact FR.upI hFy6 (rfl)
      replace eYy8 : Yy8 = upI Yy6 47 0 (-v7) := eYy8
      refine x_aload_n (i := 0) C dX3_lay_137 rfl rfl ?_
      refine x_getRs (r := 47) C fkX_X3_15 (nlt rfl) rfl (HG.rR hHy8 (k := 45) (i := 1) rfl rfl) dX3_lay_138 ?_
      refine x_iconst C dX3_lay_141 ?_
      refine x_iconst C dX3_lay_142 ?_
      refine x_iast C (nlt rfl) rfl rfl (nle rfl) (by omega) (by omega) dX3_lay_143 ?_
      refine x_gX (fun Yy9 eYy9 => ?_)
      have hHy9 : HG vX Yy9 := by
        rw [eYy9]
        exact hg_wA hHy8 (n := 4) (p := ((-6), 6)) (by decide +kernel) (by omega) ⟨by omega, by omega⟩
      have hFy9 : FR (cMd k_X_20) X0 Yy9 := by
        rw [eYy9]
        exact FR.upI hFy8 (rfl)
      replace eYy9 : Yy9 = upI Yy8 47 1 (1) := eYy9
      refine x_aload_n (i := 0) C dX3_lay_144 rfl rfl ?_
      refine x_getRs (r := 47) C fkX_X3_15 (nlt rfl) rfl (HG.rR hHy9 (k := 45) (i := 1) rfl rfl) dX3_lay_145 ?_
      refine x_iconst C dX3_lay_148 ?_
      refine x_aload_n (i := 1) C dX3_lay_149 rfl rfl ?_
      refine x_getI C fkX_X3_19 (nlt rfl) rfl dX3_lay_150 ?_
      refine x_gen (fun v10 ev10 => ?_)
      have qv10 : (0 : Int) ≤ v10 ∧ v10 ≤ (6 : Int) := by
        rw [ev10]
        exact hHy9.rF (k := 7) (i := 0) rfl rfl
      have wv10 : v10 = X0.1 7 0 := by rw [ev10, (hFy9 7 0 rfl).1]
      refine x_iast C (nlt rfl) rfl rfl (nle rfl) (by omega) (by omega) dX3_lay_153 ?_
      refine x_gX (fun Yy11 eYy11 => ?_)
      have hHy11 : HG vX Yy11 := by
        rw [eYy11]
        exact hg_wA hHy9 (n := 4) (p := ((-6), 6)) (by decide +kernel) (by omega) ⟨by omega, by omega⟩
      have hFy11 : FR (cMd k_X_20) X0 Yy11 := by
        rw [eYy11]
        exact FR.upI hFy9 (rfl)
      replace eYy11 : Yy11 = upI Yy9 47 2 (v10) := eYy11
      refine x_aload_n (i := 0) C dX3_lay_154 rfl rfl ?_
      refine x_getRs (r := 47) C fkX_X3_15 (nlt rfl) rfl (HG.rR hHy11 (k := 45) (i := 1) rfl rfl) dX3_lay_155 ?_
      refine x_iconst C dX3_lay_158 ?_
      refine x_iconst C dX3_lay_159 ?_
      refine x_iast C (nlt rfl) rfl rfl (nle rfl) (by omega) (by omega) dX3_lay_160 ?_
      refine x_gX (fun Yy12 eYy12 => ?_)
      have hHy12 : HG vX Yy12 := by
        rw [eYy12]
        exact hg_wA hHy11 (n := 4) (p := ((-6), 6)) (by decide +kernel) (by omega) ⟨by omega, by omega⟩
      have hFy12 : FR (cMd k_X_20) X0 Yy12 := by
        rw [eYy12]
        exact FR.upI hFy11 (rfl)
      replace eYy12 : Yy12 = upI Yy11 47 3 ((-1)) := eYy12
      refine x_aload_n (i := 0) C dX3_lay_161 rfl rfl ?_
      refine x_aload_n (i := 1) C dX3_lay_162 rfl rfl ?_
      refine x_lload C dX3_lay_163 rfl ?_
      refine x_lload C dX3_lay_165 rfl ?_
      refine x_callV (As := [.ref 7, .long (all), .long (o)]) C (by exact (xf_layN45_7 (all := all) (op := o) hHy12 FR.rf)) ckX3_53 im_X3_layNeighbours se_X3_layNeighbours (nlt rfl) rfl rfl rfl rfl (nle rfl) (by exact ⟨nle rfl, nle rfl⟩) dX3_lay_167 ?_
      rintro _ Yy13 ⟨rfl, hHy13, hGy13, P0y13, P1y13, P2y13, P3y13⟩
      have hFy13 : FR (cMd k_X_20) X0 Yy13 := FR.tr hFy12 hGy13 (by decide)
      refine Wx_st (st' := []) rfl ?_
      exact x_vret C hQ dX3_lay_170 (⟨rfl, hHy13, hFy13, by (intro s hs j hj ht); (have lt : ∀ i, tb o i = true → i < 36 := fun i hi => by (by_cases q : i < 36); (exact q); (rw [m36_iff.mp om i (by omega)] at hi; cases hi)); (rcases (show s = 0 ∨ s = 1 ∨ s = 2 ∨ s = 3 by omega) with rfl | rfl | rfl | rfl); ((have p := P0y13 j hj ht); (have := lt _ p.2); (rw [(hGy13 47 0 rfl).1, eYy12, upI_ne (by decide), eYy11, upI_ne (by decide), eYy9, upI_ne (by decide), eYy8, upI_at]); (have p1 := p.1); (have wq := (show Yy12.1 7 0 = v10 by rw [(hFy12 7 0 rfl).1, wv10])); (rw [wq] at this p1); (omega)); ((have := lt _ (P1y13 j hj ht)); (rw [(hGy13 47 1 rfl).1, eYy12, upI_ne (by decide), eYy11, upI_ne (by decide), eYy9, upI_at]); (omega)); ((have := lt _ (P2y13 j hj ht)); (rw [(hGy13 47 2 rfl).1, eYy12, upI_ne (by decide), eYy11, upI_at]); (have wq := (show Yy12.1 7 0 = v10 by rw [(hFy12 7 0 rfl).1, wv10])); (rw [wq] at this); (omega)); ((have p := P3y13 j hj ht); (have := lt _ p.2); (rw [(hGy13 47 3 rfl).1, eYy12, upI_at]); (have p1 := p.1); (omega))⟩)
    · refine x_iload C dX3_lay_46 rfl ?_
      refine x_iload C dX3_lay_48 rfl ?_
      refine x_icmp_eq (tgt := 107) C dX3_lay_50 (by decide) ⟨by omega, by omega⟩ ⟨by omega, by omega⟩ (fun h14 => ?_) (fun h14 => ?_)
      · refine x_iinc (lv' := [(9, .int (iI (i + 1))), (7, .long (o)), (0, .ref 45), (1, .ref 7), (2, .ref 9), (3, .int (iI (sd))), (4, .int (iI (mn))), (5, .long (all))]) C dX3_lay_107 rfl (nlt rfl) rfl ?_
        refine x_goto (tgt := 37) C dX3_lay_110 (by decide) ?_
        refine Wx_pick [9, 7, 0, 1, 2, 3, 4, 5] ?_
        refine Wx_lv (lv' := [(9, .int (iI (i + 1))), (7, .long (o)), (0, .ref 45), (1, .ref 7), (2, .ref 9), (3, .int (iI (sd))), (4, .int (iI (mn))), (5, .long (all))]) rfl ?_
        exact ih _ _ _ (by omega) (by omega) (by omega) om hH hF
      · refine x_aload_n (i := 2) C dX3_lay_53 rfl rfl ?_
        refine x_iload C dX3_lay_54 rfl ?_
        refine x_iald C (nlt rfl) rfl rfl (nle rfl) (by omega) (by omega) dX3_lay_56 ?_
        refine x_gen (fun v15 ev15 => ?_)
        have qv15 : ((-2147483648) : Int) ≤ v15 ∧ v15 ≤ (2147483647 : Int) := by
          rw [ev15]
          exact hH.rA (k := 9) (n := 6) (p := ((-2147483648), 2147483647)) (nlt rfl) rfl (by decide +kernel) (by omega)
        refine x_iconst C dX3_lay_57 ?_
        refine x_icmp_eq (tgt := 107) C dX3_lay_58 (by decide) ⟨by omega, by omega⟩ ⟨by omega, by omega⟩ (fun h16 => ?_) (fun h16 => ?_)
        · refine x_iinc (lv' := [(9, .int (iI (i + 1))), (7, .long (o)), (0, .ref 45), (1, .ref 7), (2, .ref 9), (3, .int (iI (sd))), (4, .int (iI (mn))), (5, .long (all))]) C dX3_lay_107 rfl (nlt rfl) rfl ?_
          refine x_goto (tgt := 37) C dX3_lay_110 (by decide) ?_
          refine Wx_pick [9, 7, 0, 1, 2, 3, 4, 5] ?_
          refine Wx_lv (lv' := [(9, .int (iI (i + 1))), (7, .long (o)), (0, .ref 45), (1, .ref 7), (2, .ref 9), (3, .int (iI (sd))), (4, .int (iI (mn))), (5, .long (all))]) rfl ?_
          exact ih _ _ _ (by omega) (by omega) (by omega) om hH hF
        · refine x_aload_n (i := 1) C dX3_lay_61 rfl rfl ?_
          refine x_getRs (r := 8) C fkX_X3_44 (nlt rfl) rfl (HG.rR hH (k := 7) (i := 5) rfl rfl) dX3_lay_62 ?_
          refine x_iload C dX3_lay_65 rfl ?_
          refine x_iald C (nlt rfl) rfl rfl (nle rfl) (by omega) (by omega) dX3_lay_67 ?_
          refine x_gen (fun v17 ev17 => ?_)
          have qv17 : ((-2147483648) : Int) ≤ v17 ∧ v17 ≤ (2147483647 : Int) := by
            rw [ev17]
            exact hH.rA (k := 8) (n := 6) (p := ((-2147483648), 2147483647)) (nlt rfl) rfl (by decide +kernel) (by omega)
          refine x_iload_n (i := 3) C dX3_lay_68 rfl rfl ?_
          refine x_icmp_ne (tgt := 91) C dX3_lay_69 (by decide) ⟨by omega, by omega⟩ ⟨by omega, by omega⟩ (fun h18 => ?_) (fun h18 => ?_)
          · refine x_aload_n (i := 0) C dX3_lay_91 rfl rfl ?_
            refine x_dup C dX3_lay_92 rfl ?_
            refine x_getL C fkX_X3_38 (nlt rfl) rfl dX3_lay_93 ?_
            refine x_genL (fun l19 el19 => ?_)
            refine x_aload_n (i := 2) C dX3_lay_96 rfl rfl ?_
            refine x_iload C dX3_lay_97 rfl ?_
            refine x_iald C (nlt rfl) rfl rfl (nle rfl) (by omega) (by omega) dX3_lay_99 ?_
            refine x_gen (fun v20 ev20 => ?_)
            have qv20 : ((-2147483648) : Int) ≤ v20 ∧ v20 ≤ (2147483647 : Int) := by
              rw [ev20]
              exact hH.rA (k := 9) (n := 6) (p := ((-2147483648), 2147483647)) (nlt rfl) rfl (by decide +kernel) (by omega)
            refine x_callSN (As := [.int (iI (v20))]) C (by exact (xf_bit (f := v20))) cnX3_28 rfl rfl (nle rfl) (by exact ⟨nle rfl, nle rfl⟩) dX3_lay_100 ?_
            rintro _ Xl21 ⟨hxl21, rfl⟩
            rw [hxl21]
            refine Wx_st (st' := [.long ((1 : Int64) <<< ((iI (v20)).toInt64 &&& 63)), .long (l19), .ref 45]) rfl ?_
            refine x_genL (fun l21 el21 => ?_)
            refine Wx_st (st' := [.long (l21), .long (l19), .ref 45]) rfl ?_
            refine x_lor C dX3_lay_103 ?_
            refine x_genL (fun l22 el22 => ?_)
            refine x_putL C pkX_X3_38 (nlt rfl) rfl dX3_lay_104 ?_
            refine x_gX (fun Yy23 eYy23 => ?_)
            have hHy23 : HG vX Yy23 := by
              rw [eYy23]
              exact hg_wLF hH (p := ((-9223372036854775808), 9223372036854775807)) rfl (l64 _)
            have hFy23 : FR (cMd k_X_20) X0 Yy23 := by
              rw [eYy23]
              exact FR.upL hF (rfl)
            replace eYy23 : Yy23 = upL X 45 2 (l22) := eYy23
            refine x_iinc (lv' := [(9, .int (iI (i + 1))), (7, .long (o)), (0, .ref 45), (1, .ref 7), (2, .ref 9), (3, .int (iI (sd))), (4, .int (iI (mn))), (5, .long (all))]) C dX3_lay_107 rfl (nlt rfl) rfl ?_
            refine x_goto (tgt := 37) C dX3_lay_110 (by decide) ?_
            refine Wx_pick [9, 7, 0, 1, 2, 3, 4, 5] ?_
            refine Wx_lv (lv' := [(9, .int (iI (i + 1))), (7, .long (o)), (0, .ref 45), (1, .ref 7), (2, .ref 9), (3, .int (iI (sd))), (4, .int (iI (mn))), (5, .long (all))]) rfl ?_
            exact ih _ _ _ (by omega) (by omega) (by omega) om hHy23 hFy23
          · refine x_lload C dX3_lay_72 rfl ?_
            refine x_aload_n (i := 2) C dX3_lay_74 rfl rfl ?_
            refine x_iload C dX3_lay_75 rfl ?_
            refine x_iald C (nlt rfl) rfl rfl (nle rfl) (by omega) (by omega) dX3_lay_77 ?_
            refine x_gen (fun v24 ev24 => ?_)
            have qv24 : ((-2147483648) : Int) ≤ v24 ∧ v24 ≤ (2147483647 : Int) := by
              rw [ev24]
              exact hH.rA (k := 9) (n := 6) (p := ((-2147483648), 2147483647)) (nlt rfl) rfl (by decide +kernel) (by omega)
            refine x_callSN (As := [.int (iI (v24))]) C (by exact (xf_bit (f := v24))) cnX3_28 rfl rfl (nle rfl) (by exact ⟨nle rfl, nle rfl⟩) dX3_lay_78 ?_
            rintro _ Xl25 ⟨hxl25, rfl⟩
            rw [hxl25]
            refine Wx_st (st' := [.long ((1 : Int64) <<< ((iI (v24)).toInt64 &&& 63)), .long (o)]) rfl ?_
            refine x_genL (fun l25 el25 => ?_)
            refine Wx_st (st' := [.long (l25), .long (o)]) rfl ?_
            refine x_ldc2 C dX3_lay_81 cnX3_36 ?_
            refine x_lxor C dX3_lay_84 ?_
            refine x_genL (fun l26 el26 => ?_)
            refine x_land C dX3_lay_85 ?_
            refine x_genL (fun l27 el27 => ?_)
            refine x_lstore (lv' := [(7, .long (l27)), (9, .int (iI (i))), (0, .ref 45), (1, .ref 7), (2, .ref 9), (3, .int (iI (sd))), (4, .int (iI (mn))), (5, .long (all))]) C dX3_lay_86 (nlt rfl) rfl ?_
            refine x_goto (tgt := 107) C dX3_lay_88 (by decide) ?_
            refine x_iinc (lv' := [(9, .int (iI (i + 1))), (7, .long (l27)), (0, .ref 45), (1, .ref 7), (2, .ref 9), (3, .int (iI (sd))), (4, .int (iI (mn))), (5, .long (all))]) C dX3_lay_107 rfl (nlt rfl) rfl ?_
            refine x_goto (tgt := 37) C dX3_lay_110 (by decide) ?_
            refine Wx_pick [9, 7, 0, 1, 2, 3, 4, 5] ?_
            refine Wx_lv (lv' := [(9, .int (iI (i + 1))), (7, .long (l27)), (0, .ref 45), (1, .ref 7), (2, .ref 9), (3, .int (iI (sd))), (4, .int (iI (mn))), (5, .long (all))]) rfl ?_
            exact ih _ _ _ (by omega) (by omega) (by omega) (by rw [el27]; exact m36_and om) hH hF
set_option maxHeartbeats 4000000 in
set_option maxRecDepth 100000 in
theorem xf_lay45_7_9 {D : va_G} {ad : Nat → Nat} {cA : Nat → ClassId} {X0 : XT} {sd mn : Int} (ss : inR sd) (mm : inR mn) (hH : HG vX X0) (hF : FR (cMd k_X_20) X0 X0) : MetX (wX D ad cA) yX3_lay cX3_lay 10 none 2 49 [.ref 45, .ref 7, .ref 9, .int (iI (sd)), .int (iI (mn))] X0 (fun r X1 => r = none ∧ HG vX X1 ∧ FR (cMd k_X_20) X0 X1 ∧ GOKP 46 47 X1) := by
  have ss' := ss
  have mm' := mm
  unfold inR at ss' mm'
  refine MetX.mk (own := RX3) (by decide +kernel) rfl (nle rfl) (fun E C hQ => ?_)
  refine Wx_lv (lv' := [(0, .ref 45), (1, .ref 7), (2, .ref 9), (3, .int (iI (sd))), (4, .int (iI (mn)))]) rfl ?_
  refine x_aload_n (i := 1) C dX3_lay_0 rfl rfl ?_
  refine x_getI C fkX_X3_19 (nlt rfl) rfl dX3_lay_1 ?_
  refine x_gen (fun v1 ev1 => ?_)
  have qv1 : (0 : Int) ≤ v1 ∧ v1 ≤ (6 : Int) := by
    rw [ev1]
    exact hH.rF (k := 7) (i := 0) rfl rfl
  refine x_aload_n (i := 1) C dX3_lay_4 rfl rfl ?_
  refine x_getI C fkX_X3_25 (nlt rfl) rfl dX3_lay_5 ?_
  refine x_gen (fun v2 ev2 => ?_)
  have qv2 : (0 : Int) ≤ v2 ∧ v2 ≤ (6 : Int) := by
    rw [ev2]
    exact hH.rF (k := 7) (i := 1) rfl rfl
  refine x_imul C dX3_lay_8 ?_
  refine x_callSN (As := [.int (iI (v1 * v2))]) C (by exact (xf_bit (f := v1 * v2))) cnX3_28 rfl rfl (nle rfl) (by exact ⟨nle rfl, nle rfl⟩) dX3_lay_9 ?_
  rintro _ Xl3 ⟨hxl3, rfl⟩
  rw [hxl3]
  refine Wx_st (st' := [.long ((1 : Int64) <<< ((iI (v1 * v2)).toInt64 &&& 63))]) rfl ?_
  refine x_genL (fun l3 el3 => ?_)
  refine Wx_st (st' := [.long (l3)]) rfl ?_
  refine x_lconst C dX3_lay_12 ?_
  refine x_eqL (b := 1) rfl ?_
  refine x_lsub C dX3_lay_13 ?_
  refine x_genL (fun l4 el4 => ?_)
  refine x_lstore (lv' := [(5, .long (l4)), (0, .ref 45), (1, .ref 7), (2, .ref 9), (3, .int (iI (sd))), (4, .int (iI (mn)))]) C dX3_lay_14 (nlt rfl) rfl ?_
  refine x_lload C dX3_lay_16 rfl ?_
  refine x_aload_n (i := 1) C dX3_lay_18 rfl rfl ?_
  refine x_getL C fkX_X3_32 (nlt rfl) rfl dX3_lay_19 ?_
  refine x_genL (fun l5 el5 => ?_)
  refine x_ldc2 C dX3_lay_22 cnX3_36 ?_
  refine x_lxor C dX3_lay_25 ?_
  refine x_genL (fun l6 el6 => ?_)
  refine x_land C dX3_lay_26 ?_
  refine x_genL (fun l7 el7 => ?_)
  refine x_lstore (lv' := [(7, .long (l7)), (5, .long (l4)), (0, .ref 45), (1, .ref 7), (2, .ref 9), (3, .int (iI (sd))), (4, .int (iI (mn)))]) C dX3_lay_27 (nlt rfl) rfl ?_
  refine x_aload_n (i := 0) C dX3_lay_29 rfl rfl ?_
  refine x_lconst C dX3_lay_30 ?_
  refine x_eqL (b := 0) rfl ?_
  refine x_putL C pkX_X3_38 (nlt rfl) rfl dX3_lay_31 ?_
  refine x_gX (fun Yy8 eYy8 => ?_)
  have hHy8 : HG vX Yy8 := by
    rw [eYy8]
    exact hg_wLF hH (p := ((-9223372036854775808), 9223372036854775807)) rfl (l64 _)
  have hFy8 : FR (cMd k_X_20) X0 Yy8 := by
    rw [eYy8]
    exact FR.upL hF (rfl)
  replace eYy8 : Yy8 = upL X0 45 2 (0) := eYy8
  refine x_iconst C dX3_lay_34 ?_
  refine x_istore (lv' := [(9, .int (iI (0))), (7, .long (l7)), (5, .long (l4)), (0, .ref 45), (1, .ref 7), (2, .ref 9), (3, .int (iI (sd))), (4, .int (iI (mn)))]) C dX3_lay_35 (nlt rfl) rfl ?_
  refine Wx_pick [9, 7, 0, 1, 2, 3, 4, 5] ?_
  refine Wx_lv (lv' := [(9, .int (iI (0))), (7, .long (l7)), (0, .ref 45), (1, .ref 7), (2, .ref 9), (3, .int (iI (sd))), (4, .int (iI (mn))), (5, .long (l4))]) rfl ?_
  exact xl_lay45_7_9 ss mm C hQ 7 0 _ _ (by omega) (by omega) (by omega) (by rw [el7]; exact m36_and (by rw [el4, el3]; exact m36_all (wh_36 (by omega) (by omega) (by omega) (by omega)))) hHy8 hFy8
set_option maxRecDepth 10000 in
theorem t_X_20 {D : va_G} {ad : Nat → Nat} {cA : Nat → ClassId} : CTR mtX vX gX (wX D ad cA) k_X_20 := by
  intro g X hpre
  obtain ⟨h00, hei, hel, hdl, hH, hE⟩ := hpre
  have h0 : (0 : Int) ≤ g.1 0 ∧ g.1 0 ≤ (0 : Int) := hei 0 _ rfl
  have h1 : ((-2147483648) : Int) ≤ g.1 1 ∧ g.1 1 ≤ (2147483647 : Int) := hei 1 _ rfl
  have h2 : ((-2147483648) : Int) ≤ g.1 2 ∧ g.1 2 ≤ (2147483647 : Int) := hei 2 _ rfl
  refine MetX.imp (fun r X1 hp => ?_) (xf_lay45_7_9 (X0 := X) (sd := g.1 1 + 0) (mn := g.1 2 + 0) ⟨by omega, by omega⟩ ⟨by omega, by omega⟩ hH FR.rf)
  obtain ⟨rfl, hH1, hF1, hG1⟩ := hp
  have e1 := gokX_1 hG1
  exact (altM_mk 0 [1] rfl (ei_cons ⟨by show (0 : Int) ≤ g.1 0; omega, by show g.1 0 ≤ (0 : Int); omega⟩ (ei_cons ⟨by show ((-2147483648) : Int) ≤ g.1 1; omega, by show g.1 1 ≤ (2147483647 : Int); omega⟩ (ei_cons ⟨by show ((-2147483648) : Int) ≤ g.1 2; omega, by show g.1 2 ≤ (2147483647 : Int); omega⟩ (ei_cons ⟨by show (1 : Int) ≤ 1; omega, by show 1 ≤ (1 : Int); omega⟩ ei_nil)))) el_nil (by rfl) (dl_cons (gh_mk rfl (by show gokX 46 47 X1 = (1 : Int) + 0; omega)) dl_nil) gd_nil hH1 (wdX.2.1 X X1 (fun k i hp => hF1 k i (nprX (md := cMd k_X_20) (by decide +kernel) hp)) hE) hF1)
set_option maxHeartbeats 4000000 in
set_option maxRecDepth 100000 in
theorem xl_layN45_10 {D : va_G} {ad : Nat → Nat} {cA : Nat → ClassId} {X : XT} {all op : Int64} (hH : HG vX X) (hF : FR mdLN45 X X) {E : ET} (C : CX E (wX D ad cA) cX3_layNeighbours 10 RX3 none { frames := 1, cells := 0, slots := 0, locals := 20 }) (hQ : EQ E (wX D ad cA) (fun r X1 => r = none ∧ HG vX X1 ∧ FR mdLN45 X X1 ∧ (∀ j, j < 64 → tb (X1.2.1 46 0) j = true → (X.1 10 0 ≤ (j : Int) ∧ tb op (j - (X.1 10 0).toNat) = true)) ∧ (∀ j, j < 64 → tb (X1.2.1 46 1) j = true → tb op (j + 1) = true) ∧ (∀ j, j < 64 → tb (X1.2.1 46 2) j = true → tb op ((X.1 10 0).toNat + j) = true) ∧ (∀ j, j < 64 → tb (X1.2.1 46 3) j = true → (1 ≤ (j : Int) ∧ tb op (j - 1) = true)))) : ∀ (n : Nat) (i : Int) (we : Int64), 6 - i < n → 0 ≤ i → i ≤ 6 → Wx E (wX D ad cA) 10 (PX (wX D ad cA) X) 6 [(8, .int (iI (i))), (6, .long (we)), (0, .ref 45), (1, .ref 10), (2, .long (all)), (4, .long (op))] [] := by
  intro n
  induction n with
  | zero => intro i we hn i0 i1; exfalso; omega
  | succ n ih =>
    intro i we hn i0 i1
    refine x_iload C dX3_layNeighbours_6 rfl ?_
    refine x_aload_n (i := 1) C dX3_layNeighbours_8 rfl rfl ?_
    refine x_getI C fkX_X3_25 (nlt rfl) rfl dX3_layNeighbours_9 ?_
    refine x_gen (fun v1 ev1 => ?_)
    have qv1 : (0 : Int) ≤ v1 ∧ v1 ≤ (6 : Int) := by
      rw [ev1]
      exact hH.rF (k := 10) (i := 1) rfl rfl
    refine x_icmp_ge (tgt := 36) C dX3_layNeighbours_12 (by decide) ⟨by omega, by omega⟩ ⟨by omega, by omega⟩ (fun h2 => ?_) (fun h2 => ?_)
    · refine x_lload C dX3_layNeighbours_36 rfl ?_
      refine x_aload_n (i := 1) C dX3_layNeighbours_38 rfl rfl ?_
      refine x_getI C fkX_X3_19 (nlt rfl) rfl dX3_layNeighbours_39 ?_
      refine x_gen (fun v3 ev3 => ?_)
      have qv3 : (0 : Int) ≤ v3 ∧ v3 ≤ (6 : Int) := by
        rw [ev3]
        exact hH.rF (k := 10) (i := 0) rfl rfl
      refine x_iconst C dX3_layNeighbours_42 ?_
      refine x_isub C dX3_layNeighbours_43 ?_
      refine x_lshl C dX3_layNeighbours_44 ?_
      refine x_genL (fun l4 el4 => ?_)
      refine x_lstore (lv' := [(8, .long (l4)), (6, .long (we)), (0, .ref 45), (1, .ref 10), (2, .long (all)), (4, .long (op))]) C dX3_layNeighbours_45 (nlt rfl) rfl ?_
      refine x_aload_n (i := 0) C dX3_layNeighbours_47 rfl rfl ?_
      refine x_getRs (r := 46) C fkX_X3_9 (nlt rfl) rfl (HG.rR hH (k := 45) (i := 0) rfl rfl) dX3_layNeighbours_48 ?_
      refine x_iconst C dX3_layNeighbours_51 ?_
      refine x_lload C dX3_layNeighbours_52 rfl ?_
      refine x_aload_n (i := 1) C dX3_layNeighbours_54 rfl rfl ?_
      refine x_getI C fkX_X3_19 (nlt rfl) rfl dX3_layNeighbours_55 ?_
      refine x_gen (fun v5 ev5 => ?_)
      have qv5 : (0 : Int) ≤ v5 ∧ v5 ≤ (6 : Int) := by
        rw [ev5]
        exact hH.rF (k := 10) (i := 0) rfl rfl
      refine x_lshl C dX3_layNeighbours_58 ?_
      refine x_genL (fun l6 el6 => ?_)
      refine x_lload_n (i := 2) C dX3_layNeighbours_59 rfl rfl ?_
      refine x_land C dX3_layNeighbours_60 ?_
      refine x_genL (fun l7 el7 => ?_)
      refine x_last C (nlt rfl) rfl rfl (nle rfl) (by omega) (by omega) dX3_layNeighbours_61 ?_
      refine x_gX (fun Yy8 eYy8 => ?_)
      have hHy8 : HG vX Yy8 := by
        rw [eYy8]
        exact hg_wLA hH (n := 4) (p := ((-9223372036854775808), 9223372036854775807)) (by decide +kernel) (by omega) (l64 _)
      have hFy8 : FR mdLN45 X Yy8 := by
        rw [eYy8]
        exact FR.upL hF (rfl)
      replace eYy8 : Yy8 = upL X 46 0 (l7) := eYy8
      refine x_aload_n (i := 0) C dX3_layNeighbours_62 rfl rfl ?_
      refine x_getRs (r := 46) C fkX_X3_9 (nlt rfl) rfl (HG.rR hHy8 (k := 45) (i := 0) rfl rfl) dX3_layNeighbours_63 ?_
      refine x_iconst C dX3_layNeighbours_66 ?_
      refine x_lload C dX3_layNeighbours_67 rfl ?_
      refine x_lload C dX3_layNeighbours_69 rfl ?_
      refine x_ldc2 C dX3_layNeighbours_71 cnX3_36 ?_
      refine x_lxor C dX3_layNeighbours_74 ?_
      refine x_genL (fun l9 el9 => ?_)
      refine x_land C dX3_layNeighbours_75 ?_
      refine x_genL (fun l10 el10 => ?_)
      refine x_iconst C dX3_layNeighbours_76 ?_
      refine x_lushr C dX3_layNeighbours_77 ?_
      refine x_genL (fun l11 el11 => ?_)
      refine x_last C (nlt rfl) rfl rfl (nle rfl) (by omega) (by omega) dX3_layNeighbours_78 ?_
      refine x_gX (fun Yy12 eYy12 => ?_)
      have hHy12 : HG vX Yy12 := by
        rw [eYy12]
        exact hg_wLA hHy8 (n := 4) (p := ((-9223372036854775808), 9223372036854775807)) (by decide +kernel) (by omega) (l64 _)
      have hFy12 : FR mdLN45 X Yy12 := by
        rw [eYy12]
        exact FR.upL hFy8 (rfl)
      replace eYy12 : Yy12 = upL Yy8 46 1 (l11) := eYy12
      refine x_aload_n (i := 0) C dX3_layNeighbours_79 rfl rfl ?_
      refine x_getRs (r := 46) C fkX_X3_9 (nlt rfl) rfl (HG.rR hHy12 (k := 45) (i := 0) rfl rfl) dX3_layNeighbours_80 ?_
      refine x_iconst C dX3_layNeighbours_83 ?_
      refine x_lload C dX3_layNeighbours_84 rfl ?_
      refine x_aload_n (i := 1) C dX3_layNeighbours_86 rfl rfl ?_
      refine x_getI C fkX_X3_19 (nlt rfl) rfl dX3_layNeighbours_87 ?_
      refine x_gen (fun v13 ev13 => ?_)
      have qv13 : (0 : Int) ≤ v13 ∧ v13 ≤ (6 : Int) := by
        rw [ev13]
        exact hHy12.rF (k := 10) (i := 0) rfl rfl
      refine x_lushr C dX3_layNeighbours_90 ?_
      refine x_genL (fun l14 el14 => ?_)
      refine x_last C (nlt rfl) rfl rfl (nle rfl) (by omega) (by omega) dX3_layNeighbours_91 ?_
      refine x_gX (fun Yy15 eYy15 => ?_)
      have hHy15 : HG vX Yy15 := by
        rw [eYy15]
        exact hg_wLA hHy12 (n := 4) (p := ((-9223372036854775808), 9223372036854775807)) (by decide +kernel) (by omega) (l64 _)
      have hFy15 : FR mdLN45 X Yy15 := by
        rw [eYy15]
        exact FR.upL hFy12 (rfl)
      replace eYy15 : Yy15 = upL Yy12 46 2 (l14) := eYy15
      refine x_aload_n (i := 0) C dX3_layNeighbours_92 rfl rfl ?_
      refine x_getRs (r := 46) C fkX_X3_9 (nlt rfl) rfl (HG.rR hHy15 (k := 45) (i := 0) rfl rfl) dX3_layNeighbours_93 ?_
      refine x_iconst C dX3_layNeighbours_96 ?_
      refine x_lload C dX3_layNeighbours_97 rfl ?_
      refine x_lload C dX3_layNeighbours_99 rfl ?_
      refine x_ldc2 C dX3_layNeighbours_101 cnX3_36 ?_
      refine x_lxor C dX3_layNeighbours_104 ?_
      refine x_genL (fun l16 el16 => ?_)
      refine x_land C dX3_layNeighbours_105 ?_
      refine x_genL (fun l17 el17 => ?_)
      refine x_iconst C dX3_layNeighbours_106 ?_
      refine x_lshl C dX3_layNeighbours_107 ?_
      refine x_genL (fun l18 el18 => ?_)
      refine x_last C (nlt rfl) rfl rfl (nle rfl) (by omega) (by omega) dX3_layNeighbours_108 ?_
      refine x_gX (fun Yy19 eYy19 => ?_)
      have hHy19 : HG vX Yy19 := by
        rw [eYy19]
        exact hg_wLA hHy15 (n := 4) (p := ((-9223372036854775808), 9223372036854775807)) (by decide +kernel) (by omega) (l64 _)
      have hFy19 : FR mdLN45 X Yy19 := by
        rw [eYy19]
        exact FR.upL hFy15 (rfl)
      replace eYy19 : Yy19 = upL Yy15 46 3 (l18) := eYy19
      refine x_aload_n (i := 0) C dX3_layNeighbours_109 rfl rfl ?_
      refine x_aload_n (i := 0) C dX3_layNeighbours_110 rfl rfl ?_
      refine x_getL C fkX_X3_38 (nlt rfl) rfl dX3_layNeighbours_111 ?_
      refine x_genL (fun l20 el20 => ?_)
      refine x_aload_n (i := 1) C dX3_layNeighbours_114 rfl rfl ?_
      refine x_getI C fkX_X3_19 (nlt rfl) rfl dX3_layNeighbours_115 ?_
      refine x_gen (fun v21 ev21 => ?_)
      have qv21 : (0 : Int) ≤ v21 ∧ v21 ≤ (6 : Int) := by
        rw [ev21]
        exact hHy19.rF (k := 10) (i := 0) rfl rfl
      refine x_lshl C dX3_layNeighbours_118 ?_
      refine x_genL (fun l22 el22 => ?_)
      refine x_lload_n (i := 2) C dX3_layNeighbours_119 rfl rfl ?_
      refine x_land C dX3_layNeighbours_120 ?_
      refine x_genL (fun l23 el23 => ?_)
      refine x_aload_n (i := 0) C dX3_layNeighbours_121 rfl rfl ?_
      refine x_getL C fkX_X3_38 (nlt rfl) rfl dX3_layNeighbours_122 ?_
      refine x_genL (fun l24 el24 => ?_)
      refine x_lload C dX3_layNeighbours_125 rfl ?_
      refine x_ldc2 C dX3_layNeighbours_127 cnX3_36 ?_
      refine x_lxor C dX3_layNeighbours_130 ?_
      refine x_genL (fun l25 el25 => ?_)
      refine x_land C dX3_layNeighbours_131 ?_
      refine x_genL (fun l26 el26 => ?_)
      refine x_iconst C dX3_layNeighbours_132 ?_
      refine x_lushr C dX3_layNeighbours_133 ?_
      refine x_genL (fun l27 el27 => ?_)
      refine x_lor C dX3_layNeighbours_134 ?_
      refine x_genL (fun l28 el28 => ?_)
      refine x_aload_n (i := 0) C dX3_layNeighbours_135 rfl rfl ?_
      refine x_getL C fkX_X3_38 (nlt rfl) rfl dX3_layNeighbours_136 ?_
      refine x_genL (fun l29 el29 => ?_)
      refine x_aload_n (i := 1) C dX3_layNeighbours_139 rfl rfl ?_
      refine x_getI C fkX_X3_19 (nlt rfl) rfl dX3_layNeighbours_140 ?_
      refine x_gen (fun v30 ev30 => ?_)
      have qv30 : (0 : Int) ≤ v30 ∧ v30 ≤ (6 : Int) := by
        rw [ev30]
        exact hHy19.rF (k := 10) (i := 0) rfl rfl
      refine x_lushr C dX3_layNeighbours_143 ?_
      refine x_genL (fun l31 el31 => ?_)
      refine x_lor C dX3_layNeighbours_144 ?_
      refine x_genL (fun l32 el32 => ?_)
      refine x_aload_n (i := 0) C dX3_layNeighbours_145 rfl rfl ?_
      refine x_getL C fkX_X3_38 (nlt rfl) rfl dX3_layNeighbours_146 ?_
      refine x_genL (fun l33 el33 => ?_)
      refine x_lload C dX3_layNeighbours_149 rfl ?_
      refine x_ldc2 C dX3_layNeighbours_151 cnX3_36 ?_
      refine x_lxor C dX3_layNeighbours_154 ?_
      refine x_genL (fun l34 el34 => ?_)
      refine x_land C dX3_layNeighbours_155 ?_
      refine x_genL (fun l35 el35 => ?_)
      refine x_iconst C dX3_layNeighbours_156 ?_
      refine x_lshl C dX3_layNeighbours_157 ?_
      refine x_genL (fun l36 el36 => ?_)
      refine x_lor C dX3_layNeighbours_158 ?_
      refine x_genL (fun l37 el37 => ?_)
      refine x_putL C pkX_X3_57 (nlt rfl) rfl dX3_layNeighbours_159 ?_
      refine x_gX (fun Yy38 eYy38 => ?_)
      have hHy38 : HG vX Yy38 := by
        rw [eYy38]
        exact hg_wLF hHy19 (p := ((-9223372036854775808), 9223372036854775807)) rfl (l64 _)
      have hFy38 : FR mdLN45 X Yy38 := by
        rw [eYy38]
        exact FR.upL hFy19 (rfl)
      replace eYy38 : Yy38 = upL Yy19 45 3 (l37) := eYy38
      exact x_vret C hQ dX3_layNeighbours_162 (⟨rfl, hHy38, hFy38, (by (have wv3 : v3 = X.1 10 0 := by rw [ev3]); (have wv5 : v5 = X.1 10 0 := by rw [ev5]); (have wv13 : v13 = X.1 10 0 := by rw [ev13, (hFy12 10 0 rfl).1]); (have wv21 : v21 = X.1 10 0 := by rw [ev21, (hFy19 10 0 rfl).1]); (have wv30 : v30 = X.1 10 0 := by rw [ev30, (hFy19 10 0 rfl).1]); (intro j hj ht); (rw [eYy38, upL_nc (by decide), eYy19, upL_ne (by decide), eYy15, upL_ne (by decide), eYy12, upL_ne (by decide), eYy8, upL_at] at ht); (rw [el7, tb_and, Bool.and_eq_true, el6, tb_shl] at ht); (have h1 := ht.1); (simp only [Bool.and_eq_true, Bool.not_eq_true', decide_eq_false_iff_not, decide_eq_true_eq] at h1); (have e1 : (v5 % 64).toNat = (X.1 10 0).toNat := by omega); (rw [e1] at h1); (exact ⟨by omega, h1.2.2⟩)), (by (have wv3 : v3 = X.1 10 0 := by rw [ev3]); (have wv5 : v5 = X.1 10 0 := by rw [ev5]); (have wv13 : v13 = X.1 10 0 := by rw [ev13, (hFy12 10 0 rfl).1]); (have wv21 : v21 = X.1 10 0 := by rw [ev21, (hFy19 10 0 rfl).1]); (have wv30 : v30 = X.1 10 0 := by rw [ev30, (hFy19 10 0 rfl).1]); (intro j hj ht); (rw [eYy38, upL_nc (by decide), eYy19, upL_ne (by decide), eYy15, upL_ne (by decide), eYy12, upL_at] at ht); (rw [el11, tb_ushr, el10, tb_and, Bool.and_eq_true] at ht); (rw [Nat.add_comm]); (exact ht.1)), (by (have wv3 : v3 = X.1 10 0 := by rw [ev3]); (have wv5 : v5 = X.1 10 0 := by rw [ev5]); (have wv13 : v13 = X.1 10 0 := by rw [ev13, (hFy12 10 0 rfl).1]); (have wv21 : v21 = X.1 10 0 := by rw [ev21, (hFy19 10 0 rfl).1]); (have wv30 : v30 = X.1 10 0 := by rw [ev30, (hFy19 10 0 rfl).1]); (intro j hj ht); (rw [eYy38, upL_nc (by decide), eYy19, upL_ne (by decide), eYy15, upL_at] at ht); (rw [el14, tb_ushr] at ht); (have e1 : (v13 % 64).toNat = (X.1 10 0).toNat := by omega); (rw [e1] at ht); (exact ht)), (by (have wv3 : v3 = X.1 10 0 := by rw [ev3]); (have wv5 : v5 = X.1 10 0 := by rw [ev5]); (have wv13 : v13 = X.1 10 0 := by rw [ev13, (hFy12 10 0 rfl).1]); (have wv21 : v21 = X.1 10 0 := by rw [ev21, (hFy19 10 0 rfl).1]); (have wv30 : v30 = X.1 10 0 := by rw [ev30, (hFy19 10 0 rfl).1]); (intro j hj ht); (rw [eYy38, upL_nc (by decide), eYy19, upL_at] at ht); (rw [el18, tb_shl, el17, tb_and] at ht); (simp only [Bool.and_eq_true, Bool.not_eq_true', decide_eq_false_iff_not, decide_eq_true_eq] at ht); (have h1 := ht.2); (exact ⟨by have := h1.1; have e1 : ((1 : Int) % 64).toNat = 1 := rfl; omega, h1.2.1⟩))⟩)
    · refine x_lload C dX3_layNeighbours_15 rfl ?_
      refine x_iload C dX3_layNeighbours_17 rfl ?_
      refine x_aload_n (i := 1) C dX3_layNeighbours_19 rfl rfl ?_
      refine x_getI C fkX_X3_19 (nlt rfl) rfl dX3_layNeighbours_20 ?_
      refine x_gen (fun v39 ev39 => ?_)
      have qv39 : (0 : Int) ≤ v39 ∧ v39 ≤ (6 : Int) := by
        rw [ev39]
        exact hH.rF (k := 10) (i := 0) rfl rfl
      refine x_imul C dX3_layNeighbours_23 ?_
      refine x_callSN (As := [.int (iI (i * v39))]) C (by exact (xf_bit (f := i * v39))) cnX3_28 rfl rfl (nle rfl) (by exact ⟨nle rfl, nle rfl⟩) dX3_layNeighbours_24 ?_
      rintro _ Xl40 ⟨hxl40, rfl⟩
      rw [hxl40]
      refine Wx_st (st' := [.long ((1 : Int64) <<< ((iI (i * v39)).toInt64 &&& 63)), .long (we)]) rfl ?_
      refine x_genL (fun l40 el40 => ?_)
      refine Wx_st (st' := [.long (l40), .long (we)]) rfl ?_
      refine x_lor C dX3_layNeighbours_27 ?_
      refine x_genL (fun l41 el41 => ?_)
      refine x_lstore (lv' := [(6, .long (l41)), (8, .int (iI (i))), (0, .ref 45), (1, .ref 10), (2, .long (all)), (4, .long (op))]) C dX3_layNeighbours_28 (nlt rfl) rfl ?_
      refine x_iinc (lv' := [(8, .int (iI (i + 1))), (6, .long (l41)), (0, .ref 45), (1, .ref 10), (2, .long (all)), (4, .long (op))]) C dX3_layNeighbours_30 rfl (nlt rfl) rfl ?_
      refine x_goto (tgt := 6) C dX3_layNeighbours_33 (by decide) ?_
      refine Wx_pick [8, 6, 0, 1, 2, 4] ?_
      refine Wx_lv (lv' := [(8, .int (iI (i + 1))), (6, .long (l41)), (0, .ref 45), (1, .ref 10), (2, .long (all)), (4, .long (op))]) rfl ?_
      exact ih _ _ (by omega) (by omega) (by omega)
set_option maxHeartbeats 4000000 in
set_option maxRecDepth 100000 in
theorem xf_layN45_10 {D : va_G} {ad : Nat → Nat} {cA : Nat → ClassId} {X : XT} {all op : Int64} (hH : HG vX X) (hF : FR mdLN45 X X) : MetX (wX D ad cA) yX3_layNeighbours cX3_layNeighbours 10 none 1 20 [.ref 45, .ref 10, .long (all), .long (op)] X (fun r X1 => r = none ∧ HG vX X1 ∧ FR mdLN45 X X1 ∧ (∀ j, j < 64 → tb (X1.2.1 46 0) j = true → (X.1 10 0 ≤ (j : Int) ∧ tb op (j - (X.1 10 0).toNat) = true)) ∧ (∀ j, j < 64 → tb (X1.2.1 46 1) j = true → tb op (j + 1) = true) ∧ (∀ j, j < 64 → tb (X1.2.1 46 2) j = true → tb op ((X.1 10 0).toNat + j) = true) ∧ (∀ j, j < 64 → tb (X1.2.1 46 3) j = true → (1 ≤ (j : Int) ∧ tb op (j - 1) = true))) := by
  refine MetX.mk (own := RX3) (by decide +kernel) rfl (nle rfl) (fun E C hQ => ?_)
  refine Wx_lv (lv' := [(0, .ref 45), (1, .ref 10), (2, .long (all)), (4, .long (op))]) rfl ?_
  refine x_lconst C dX3_layNeighbours_0 ?_
  refine x_eqL (b := 0) rfl ?_
  refine x_lstore (lv' := [(6, .long (0)), (0, .ref 45), (1, .ref 10), (2, .long (all)), (4, .long (op))]) C dX3_layNeighbours_1 (nlt rfl) rfl ?_
  refine x_iconst C dX3_layNeighbours_3 ?_
  refine x_istore (lv' := [(8, .int (iI (0))), (6, .long (0)), (0, .ref 45), (1, .ref 10), (2, .long (all)), (4, .long (op))]) C dX3_layNeighbours_4 (nlt rfl) rfl ?_
  refine Wx_pick [8, 6, 0, 1, 2, 4] ?_
  refine Wx_lv (lv' := [(8, .int (iI (0))), (6, .long (0)), (0, .ref 45), (1, .ref 10), (2, .long (all)), (4, .long (op))]) rfl ?_
  exact xl_layN45_10 hH hF C hQ 7 0 0 (by omega) (by omega) (by omega)
set_option maxHeartbeats 4000000 in
set_option maxRecDepth 100000 in
theorem xl_lay45_10_12 {D : va_G} {ad : Nat → Nat} {cA : Nat → ClassId} {X0 : XT} {all : Int64} {sd mn : Int} (ss : inR sd) (mm : inR mn) {E : ET} (C : CX E (wX D ad cA) cX3_lay 10 RX3 none { frames := 2, cells := 0, slots := 0, locals := 49 }) (hQ : EQ E (wX D ad cA) (fun r X1 => r = none ∧ HG vX X1 ∧ FR (cMd k_X_44) X0 X1 ∧ GOKP 46 47 X1)) : ∀ (n : Nat) (i : Int) (o : Int64) (X : XT), 6 - i < n → 0 ≤ i → i ≤ 6 → m36 o → HG vX X → FR (cMd k_X_44) X0 X → Wx E (wX D ad cA) 10 (PX (wX D ad cA) X) 37 [(9, .int (iI (i))), (7, .long (o)), (0, .ref 45), (1, .ref 10), (2, .ref 12), (3, .int (iI (sd))), (4, .int (iI (mn))), (5, .long (all))] [] := by
  intro n
  induction n with
  | zero => intro i o X hn i0 i1 om hH hF; exfalso; omega
  | succ n ih =>
    intro i o X hn i0 i1 om hH hF
    unfold inR at ss mm
    refine x_iload C dX3_lay_37 rfl ?_
    refine x_aload_n (i := 1) C dX3_lay_39 rfl rfl ?_
    refine x_getI C fkX_X3_41 (nlt rfl) rfl dX3_lay_40 ?_
    refine x_gen (fun v1 ev1 => ?_)
    have qv1 : (0 : Int) ≤ v1 ∧ v1 ≤ (6 : Int) := by
      rw [ev1]
      exact hH.rF (k := 10) (i := 4) rfl rfl
    refine x_icmp_ge (tgt := 113) C dX3_lay_43 (by decide) ⟨by omega, by omega⟩ ⟨by omega, by omega⟩ (fun h2 => ?_) (fun h2 => ?_)
    · refine x_aload_n (i := 0) C dX3_lay_113 rfl rfl ?_
      refine x_aload_n (i := 0) C dX3_lay_114 rfl rfl ?_
      refine x_getL C fkX_X3_38 (nlt rfl) rfl dX3_lay_115 ?_
      refine x_genL (fun l3 el3 => ?_)
      refine x_aload_n (i := 1) C dX3_lay_118 rfl rfl ?_
      refine x_getL C fkX_X3_47 (nlt rfl) rfl dX3_lay_119 ?_
      refine x_genL (fun l4 el4 => ?_)
      refine x_lor C dX3_lay_122 ?_
      refine x_genL (fun l5 el5 => ?_)
      refine x_putL C pkX_X3_50 (nlt rfl) rfl dX3_lay_123 ?_
      refine x_gX (fun Yy6 eYy6 => ?_)
      have hHy6 : HG vX Yy6 := by
        rw [eYy6]
        exact hg_wLF hH (p := ((-9223372036854775808), 9223372036854775807)) rfl (l64 _)
      have hFy6 : FR (cMd k_X_44) X0 Yy6 := by
        rw [eYy6]
        exact FR.upL hF (rfl)
      replace eYy6 : Yy6 = upL X 45 4 (l5) := eYy6
      refine x_aload_n (i := 0) C dX3_lay_126 rfl rfl ?_
      refine x_getRs (r := 47) C fkX_X3_15 (nlt rfl) rfl (HG.rR hHy6 (k := 45) (i := 1) rfl rfl) dX3_lay_127 ?_
      refine x_iconst C dX3_lay_130 ?_
      refine x_aload_n (i := 1) C dX3_lay_131 rfl rfl ?_
      refine x_getI C fkX_X3_19 (nlt rfl) rfl dX3_lay_132 ?_
      refine x_gen (fun v7 ev7 => ?_)
      have qv7 : (0 : Int) ≤ v7 ∧ v7 ≤ (6 : Int) := by
        rw [ev7]
        exact hHy6.rF (k := 10) (i := 0) rfl rfl
      have wv7 : v7 = X0.1 10 0 := by rw [ev7, (hFy6 10 0 rfl).1]
      refine x_ineg C dX3_lay_135 ?_
      refine x_iast C (nlt rfl) rfl rfl (nle rfl) (by omega) (by omega) dX3_lay_136 ?_
      refine x_gX (fun Yy8 eYy8 => ?_)
      have hHy8 : HG vX Yy8 := by
        rw [eYy8]
        exact hg_wA hHy6 (n := 4) (p := ((-6), 6)) (by decide +kernel) (by omega) ⟨by omega, by omega⟩
      have hFy8 : FR (cMd k_X_44) X0 Yy8 := by
        rw [eYy8]
        exact FR.upI hFy6 (rfl)
      replace eYy8 : Yy8 = upI Yy6 47 0 (-v7) := eYy8
      refine x_aload_n (i := 0) C dX3_lay_137 rfl rfl ?_
      refine x_getRs (r := 47) C fkX_X3_15 (nlt rfl) rfl (HG.rR hHy8 (k := 45) (i := 1) rfl rfl) dX3_lay_138 ?_
      refine x_iconst C dX3_lay_141 ?_
      refine x_iconst C dX3_lay_142 ?_
      refine x_iast C (nlt rfl) rfl rfl (nle rfl) (by omega) (by omega) dX3_lay_143 ?_
      refine x_gX (fun Yy9 eYy9 => ?_)
      have hHy9 : HG vX Yy9 := by
        rw [eYy9]
        exact hg_wA hHy8 (n := 4) (p := ((-6), 6)) (by decide +kernel) (by omega) ⟨by omega, by omega⟩
      have hFy9 : FR (cMd k_X_44) X0 Yy9 := by
        rw [eYy9]
        exact FR.upI hFy8 (rfl)
      replace eYy9 : Yy9 = upI Yy8 47 1 (1) := eYy9
      refine x_aload_n (i := 0) C dX3_lay_144 rfl rfl ?_
      refine x_getRs (r := 47) C fkX_X3_15 (nlt rfl) rfl (HG.rR hHy9 (k := 45) (i := 1) rfl rfl) dX3_lay_145 ?_
      refine x_iconst C dX3_lay_148 ?_
      refine x_aload_n (i := 1) C dX3_lay_149 rfl rfl ?_
      refine x_getI C fkX_X3_19 (nlt rfl) rfl dX3_lay_150 ?_
      refine x_gen (fun v10 ev10 => ?_)
      have qv10 : (0 : Int) ≤ v10 ∧ v10 ≤ (6 : Int) := by
        rw [ev10]
        exact hHy9.rF (k := 10) (i := 0) rfl rfl
      have wv10 : v10 = X0.1 10 0 := by rw [ev10, (hFy9 10 0 rfl).1]
      refine x_iast C (nlt rfl) rfl rfl (nle rfl) (by omega) (by omega) dX3_lay_153 ?_
      refine x_gX (fun Yy11 eYy11 => ?_)
      have hHy11 : HG vX Yy11 := by
        rw [eYy11]
        exact hg_wA hHy9 (n := 4) (p := ((-6), 6)) (by decide +kernel) (by omega) ⟨by omega, by omega⟩
      have hFy11 : FR (cMd k_X_44) X0 Yy11 := by
        rw [eYy11]
        exact FR.upI hFy9 (rfl)
      replace eYy11 : Yy11 = upI Yy9 47 2 (v10) := eYy11
      refine x_aload_n (i := 0) C dX3_lay_154 rfl rfl ?_
      refine x_getRs (r := 47) C fkX_X3_15 (nlt rfl) rfl (HG.rR hHy11 (k := 45) (i := 1) rfl rfl) dX3_lay_155 ?_
      refine x_iconst C dX3_lay_158 ?_
      refine x_iconst C dX3_lay_159 ?_
      refine x_iast C (nlt rfl) rfl rfl (nle rfl) (by omega) (by omega) dX3_lay_160 ?_
      refine x_gX (fun Yy12 eYy12 => ?_)
      have hHy12 : HG vX Yy12 := by
        rw [eYy12]
        exact hg_wA hHy11 (n := 4) (p := ((-6), 6)) (by decide +kernel) (by omega) ⟨by omega, by omega⟩
      have hFy12 : FR (cMd k_X_44) X0 Yy12 := by
        rw [eYy12]
        exact FR.upI hFy11 (rfl)
      replace eYy12 : Yy12 = upI Yy11 47 3 ((-1)) := eYy12
      refine x_aload_n (i := 0) C dX3_lay_161 rfl rfl ?_
      refine x_aload_n (i := 1) C dX3_lay_162 rfl rfl ?_
      refine x_lload C dX3_lay_163 rfl ?_
      refine x_lload C dX3_lay_165 rfl ?_
      refine x_callV (As := [.ref 10, .long (all), .long (o)]) C (by exact (xf_layN45_10 (all := all) (op := o) hHy12 FR.rf)) ckX3_53 im_X3_layNeighbours se_X3_layNeighbours (nlt rfl) rfl rfl rfl rfl (nle rfl) (by exact ⟨nle rfl, nle rfl⟩) dX3_lay_167 ?_
      rintro _ Yy13 ⟨rfl, hHy13, hGy13, P0y13, P1y13, P2y13, P3y13⟩
      have hFy13 : FR (cMd k_X_44) X0 Yy13 := FR.tr hFy12 hGy13 (by decide)
      refine Wx_st (st' := []) rfl ?_
      exact x_vret C hQ dX3_lay_170 (⟨rfl, hHy13, hFy13, by (intro s hs j hj ht); (have lt : ∀ i, tb o i = true → i < 36 := fun i hi => by (by_cases q : i < 36); (exact q); (rw [m36_iff.mp om i (by omega)] at hi; cases hi)); (rcases (show s = 0 ∨ s = 1 ∨ s = 2 ∨ s = 3 by omega) with rfl | rfl | rfl | rfl); ((have p := P0y13 j hj ht); (have := lt _ p.2); (rw [(hGy13 47 0 rfl).1, eYy12, upI_ne (by decide), eYy11, upI_ne (by decide), eYy9, upI_ne (by decide), eYy8, upI_at]); (have p1 := p.1); (have wq := (show Yy12.1 10 0 = v10 by rw [(hFy12 10 0 rfl).1, wv10])); (rw [wq] at this p1); (omega)); ((have := lt _ (P1y13 j hj ht)); (rw [(hGy13 47 1 rfl).1, eYy12, upI_ne (by decide), eYy11, upI_ne (by decide), eYy9, upI_at]); (omega)); ((have := lt _ (P2y13 j hj ht)); (rw [(hGy13 47 2 rfl).1, eYy12, upI_ne (by decide), eYy11, upI_at]); (have wq := (show Yy12.1 10 0 = v10 by rw [(hFy12 10 0 rfl).1, wv10])); (rw [wq] at this); (omega)); ((have p := P3y13 j hj ht); (have := lt _ p.2); (rw [(hGy13 47 3 rfl).1, eYy12, upI_at]); (have p1 := p.1); (omega))⟩)
    · refine x_iload C dX3_lay_46 rfl ?_
      refine x_iload C dX3_lay_48 rfl ?_
      refine x_icmp_eq (tgt := 107) C dX3_lay_50 (by decide) ⟨by omega, by omega⟩ ⟨by omega, by omega⟩ (fun h14 => ?_) (fun h14 => ?_)
      · refine x_iinc (lv' := [(9, .int (iI (i + 1))), (7, .long (o)), (0, .ref 45), (1, .ref 10), (2, .ref 12), (3, .int (iI (sd))), (4, .int (iI (mn))), (5, .long (all))]) C dX3_lay_107 rfl (nlt rfl) rfl ?_
        refine x_goto (tgt := 37) C dX3_lay_110 (by decide) ?_
        refine Wx_pick [9, 7, 0, 1, 2, 3, 4, 5] ?_
        refine Wx_lv (lv' := [(9, .int (iI (i + 1))), (7, .long (o)), (0, .ref 45), (1, .ref 10), (2, .ref 12), (3, .int (iI (sd))), (4, .int (iI (mn))), (5, .long (all))]) rfl ?_
        exact ih _ _ _ (by omega) (by omega) (by omega) om hH hF
      · refine x_aload_n (i := 2) C dX3_lay_53 rfl rfl ?_
        refine x_iload C dX3_lay_54 rfl ?_
        refine x_iald C (nlt rfl) rfl rfl (nle rfl) (by omega) (by omega) dX3_lay_56 ?_
        refine x_gen (fun v15 ev15 => ?_)
        have qv15 : ((-2147483648) : Int) ≤ v15 ∧ v15 ≤ (2147483647 : Int) := by
          rw [ev15]
          exact hH.rA (k := 12) (n := 6) (p := ((-2147483648), 2147483647)) (nlt rfl) rfl (by decide +kernel) (by omega)
        refine x_iconst C dX3_lay_57 ?_
        refine x_icmp_eq (tgt := 107) C dX3_lay_58 (by decide) ⟨by omega, by omega⟩ ⟨by omega, by omega⟩ (fun h16 => ?_) (fun h16 => ?_)
        · refine x_iinc (lv' := [(9, .int (iI (i + 1))), (7, .long (o)), (0, .ref 45), (1, .ref 10), (2, .ref 12), (3, .int (iI (sd))), (4, .int (iI (mn))), (5, .long (all))]) C dX3_lay_107 rfl (nlt rfl) rfl ?_
          refine x_goto (tgt := 37) C dX3_lay_110 (by decide) ?_
          refine Wx_pick [9, 7, 0, 1, 2, 3, 4, 5] ?_
          refine Wx_lv (lv' := [(9, .int (iI (i + 1))), (7, .long (o)), (0, .ref 45), (1, .ref 10), (2, .ref 12), (3, .int (iI (sd))), (4, .int (iI (mn))), (5, .long (all))]) rfl ?_
          exact ih _ _ _ (by omega) (by omega) (by omega) om hH hF
        · refine x_aload_n (i := 1) C dX3_lay_61 rfl rfl ?_
          refine x_getRs (r := 11) C fkX_X3_44 (nlt rfl) rfl (HG.rR hH (k := 10) (i := 5) rfl rfl) dX3_lay_62 ?_
          refine x_iload C dX3_lay_65 rfl ?_
          refine x_iald C (nlt rfl) rfl rfl (nle rfl) (by omega) (by omega) dX3_lay_67 ?_
          refine x_gen (fun v17 ev17 => ?_)
          have qv17 : ((-2147483648) : Int) ≤ v17 ∧ v17 ≤ (2147483647 : Int) := by
            rw [ev17]
            exact hH.rA (k := 11) (n := 6) (p := ((-2147483648), 2147483647)) (nlt rfl) rfl (by decide +kernel) (by omega)
          refine x_iload_n (i := 3) C dX3_lay_68 rfl rfl ?_
          refine x_icmp_ne (tgt := 91) C dX3_lay_69 (by decide) ⟨by omega, by omega⟩ ⟨by omega, by omega⟩ (fun h18 => ?_) (fun h18 => ?_)
          · refine x_aload_n (i := 0) C dX3_lay_91 rfl rfl ?_
            refine x_dup C dX3_lay_92 rfl ?_
            refine x_getL C fkX_X3_38 (nlt rfl) rfl dX3_lay_93 ?_
            refine x_genL (fun l19 el19 => ?_)
            refine x_aload_n (i := 2) C dX3_lay_96 rfl rfl ?_
            refine x_iload C dX3_lay_97 rfl ?_
            refine x_iald C (nlt rfl) rfl rfl (nle rfl) (by omega) (by omega) dX3_lay_99 ?_
            refine x_gen (fun v20 ev20 => ?_)
            have qv20 : ((-2147483648) : Int) ≤ v20 ∧ v20 ≤ (2147483647 : Int) := by
              rw [ev20]
              exact hH.rA (k := 12) (n := 6) (p := ((-2147483648), 2147483647)) (nlt rfl) rfl (by decide +kernel) (by omega)
            refine x_callSN (As := [.int (iI (v20))]) C (by exact (xf_bit (f := v20))) cnX3_28 rfl rfl (nle rfl) (by exact ⟨nle rfl, nle rfl⟩) dX3_lay_100 ?_
            rintro _ Xl21 ⟨hxl21, rfl⟩
            rw [hxl21]
            refine Wx_st (st' := [.long ((1 : Int64) <<< ((iI (v20)).toInt64 &&& 63)), .long (l19), .ref 45]) rfl ?_
            refine x_genL (fun l21 el21 => ?_)
            refine Wx_st (st' := [.long (l21), .long (l19), .ref 45]) rfl ?_
            refine x_lor C dX3_lay_103 ?_
            refine x_genL (fun l22 el22 => ?_)
            refine x_putL C pkX_X3_38 (nlt rfl) rfl dX3_lay_104 ?_
            refine x_gX (fun Yy23 eYy23 => ?_)
            have hHy23 : HG vX Yy23 := by
              rw [eYy23]
              exact hg_wLF hH (p := ((-9223372036854775808), 9223372036854775807)) rfl (l64 _)
            have hFy23 : FR (cMd k_X_44) X0 Yy23 := by
              rw [eYy23]
              exact FR.upL hF (rfl)
            replace eYy23 : Yy23 = upL X 45 2 (l22) := eYy23
            refine x_iinc (lv' := [(9, .int (iI (i + 1))), (7, .long (o)), (0, .ref 45), (1, .ref 10), (2, .ref 12), (3, .int (iI (sd))), (4, .int (iI (mn))), (5, .long (all))]) C dX3_lay_107 rfl (nlt rfl) rfl ?_
            refine x_goto (tgt := 37) C dX3_lay_110 (by decide) ?_
            refine Wx_pick [9, 7, 0, 1, 2, 3, 4, 5] ?_
            refine Wx_lv (lv' := [(9, .int (iI (i + 1))), (7, .long (o)), (0, .ref 45), (1, .ref 10), (2, .ref 12), (3, .int (iI (sd))), (4, .int (iI (mn))), (5, .long (all))]) rfl ?_
            exact ih _ _ _ (by omega) (by omega) (by omega) om hHy23 hFy23
          · refine x_lload C dX3_lay_72 rfl ?_
            refine x_aload_n (i := 2) C dX3_lay_74 rfl rfl ?_
            refine x_iload C dX3_lay_75 rfl ?_
            refine x_iald C (nlt rfl) rfl rfl (nle rfl) (by omega) (by omega) dX3_lay_77 ?_
            refine x_gen (fun v24 ev24 => ?_)
            have qv24 : ((-2147483648) : Int) ≤ v24 ∧ v24 ≤ (2147483647 : Int) := by
              rw [ev24]
              exact hH.rA (k := 12) (n := 6) (p := ((-2147483648), 2147483647)) (nlt rfl) rfl (by decide +kernel) (by omega)
            refine x_callSN (As := [.int (iI (v24))]) C (by exact (xf_bit (f := v24))) cnX3_28 rfl rfl (nle rfl) (by exact ⟨nle rfl, nle rfl⟩) dX3_lay_78 ?_
            rintro _ Xl25 ⟨hxl25, rfl⟩
            rw [hxl25]
            refine Wx_st (st' := [.long ((1 : Int64) <<< ((iI (v24)).toInt64 &&& 63)), .long (o)]) rfl ?_
            refine x_genL (fun l25 el25 => ?_)
            refine Wx_st (st' := [.long (l25), .long (o)]) rfl ?_
            refine x_ldc2 C dX3_lay_81 cnX3_36 ?_
            refine x_lxor C dX3_lay_84 ?_
            refine x_genL (fun l26 el26 => ?_)
            refine x_land C dX3_lay_85 ?_
            refine x_genL (fun l27 el27 => ?_)
            refine x_lstore (lv' := [(7, .long (l27)), (9, .int (iI (i))), (0, .ref 45), (1, .ref 10), (2, .ref 12), (3, .int (iI (sd))), (4, .int (iI (mn))), (5, .long (all))]) C dX3_lay_86 (nlt rfl) rfl ?_
            refine x_goto (tgt := 107) C dX3_lay_88 (by decide) ?_
            refine x_iinc (lv' := [(9, .int (iI (i + 1))), (7, .long (l27)), (0, .ref 45), (1, .ref 10), (2, .ref 12), (3, .int (iI (sd))), (4, .int (iI (mn))), (5, .long (all))]) C dX3_lay_107 rfl (nlt rfl) rfl ?_
            refine x_goto (tgt := 37) C dX3_lay_110 (by decide) ?_
            refine Wx_pick [9, 7, 0, 1, 2, 3, 4, 5] ?_
            refine Wx_lv (lv' := [(9, .int (iI (i + 1))), (7, .long (l27)), (0, .ref 45), (1, .ref 10), (2, .ref 12), (3, .int (iI (sd))), (4, .int (iI (mn))), (5, .long (all))]) rfl ?_
            exact ih _ _ _ (by omega) (by omega) (by omega) (by rw [el27]; exact m36_and om) hH hF
set_option maxHeartbeats 4000000 in
set_option maxRecDepth 100000 in
theorem xf_lay45_10_12 {D : va_G} {ad : Nat → Nat} {cA : Nat → ClassId} {X0 : XT} {sd mn : Int} (ss : inR sd) (mm : inR mn) (hH : HG vX X0) (hF : FR (cMd k_X_44) X0 X0) : MetX (wX D ad cA) yX3_lay cX3_lay 10 none 2 49 [.ref 45, .ref 10, .ref 12, .int (iI (sd)), .int (iI (mn))] X0 (fun r X1 => r = none ∧ HG vX X1 ∧ FR (cMd k_X_44) X0 X1 ∧ GOKP 46 47 X1) := by
  have ss' := ss
  have mm' := mm
  unfold inR at ss' mm'
  refine MetX.mk (own := RX3) (by decide +kernel) rfl (nle rfl) (fun E C hQ => ?_)
  refine Wx_lv (lv' := [(0, .ref 45), (1, .ref 10), (2, .ref 12), (3, .int (iI (sd))), (4, .int (iI (mn)))]) rfl ?_
  refine x_aload_n (i := 1) C dX3_lay_0 rfl rfl ?_
  refine x_getI C fkX_X3_19 (nlt rfl) rfl dX3_lay_1 ?_
  refine x_gen (fun v1 ev1 => ?_)
  have qv1 : (0 : Int) ≤ v1 ∧ v1 ≤ (6 : Int) := by
    rw [ev1]
    exact hH.rF (k := 10) (i := 0) rfl rfl
  refine x_aload_n (i := 1) C dX3_lay_4 rfl rfl ?_
  refine x_getI C fkX_X3_25 (nlt rfl) rfl dX3_lay_5 ?_
  refine x_gen (fun v2 ev2 => ?_)
  have qv2 : (0 : Int) ≤ v2 ∧ v2 ≤ (6 : Int) := by
    rw [ev2]
    exact hH.rF (k := 10) (i := 1) rfl rfl
  refine x_imul C dX3_lay_8 ?_
  refine x_callSN (As := [.int (iI (v1 * v2))]) C (by exact (xf_bit (f := v1 * v2))) cnX3_28 rfl rfl (nle rfl) (by exact ⟨nle rfl, nle rfl⟩) dX3_lay_9 ?_
  rintro _ Xl3 ⟨hxl3, rfl⟩
  rw [hxl3]
  refine Wx_st (st' := [.long ((1 : Int64) <<< ((iI (v1 * v2)).toInt64 &&& 63))]) rfl ?_
  refine x_genL (fun l3 el3 => ?_)
  refine Wx_st (st' := [.long (l3)]) rfl ?_
  refine x_lconst C dX3_lay_12 ?_
  refine x_eqL (b := 1) rfl ?_
  refine x_lsub C dX3_lay_13 ?_
  refine x_genL (fun l4 el4 => ?_)
  refine x_lstore (lv' := [(5, .long (l4)), (0, .ref 45), (1, .ref 10), (2, .ref 12), (3, .int (iI (sd))), (4, .int (iI (mn)))]) C dX3_lay_14 (nlt rfl) rfl ?_
  refine x_lload C dX3_lay_16 rfl ?_
  refine x_aload_n (i := 1) C dX3_lay_18 rfl rfl ?_
  refine x_getL C fkX_X3_32 (nlt rfl) rfl dX3_lay_19 ?_
  refine x_genL (fun l5 el5 => ?_)
  refine x_ldc2 C dX3_lay_22 cnX3_36 ?_
  refine x_lxor C dX3_lay_25 ?_
  refine x_genL (fun l6 el6 => ?_)
  refine x_land C dX3_lay_26 ?_
  refine x_genL (fun l7 el7 => ?_)
  refine x_lstore (lv' := [(7, .long (l7)), (5, .long (l4)), (0, .ref 45), (1, .ref 10), (2, .ref 12), (3, .int (iI (sd))), (4, .int (iI (mn)))]) C dX3_lay_27 (nlt rfl) rfl ?_
  refine x_aload_n (i := 0) C dX3_lay_29 rfl rfl ?_
  refine x_lconst C dX3_lay_30 ?_
  refine x_eqL (b := 0) rfl ?_
  refine x_putL C pkX_X3_38 (nlt rfl) rfl dX3_lay_31 ?_
  refine x_gX (fun Yy8 eYy8 => ?_)
  have hHy8 : HG vX Yy8 := by
    rw [eYy8]
    exact hg_wLF hH (p := ((-9223372036854775808), 9223372036854775807)) rfl (l64 _)
  have hFy8 : FR (cMd k_X_44) X0 Yy8 := by
    rw [eYy8]
    exact FR.upL hF (rfl)
  replace eYy8 : Yy8 = upL X0 45 2 (0) := eYy8
  refine x_iconst C dX3_lay_34 ?_
  refine x_istore (lv' := [(9, .int (iI (0))), (7, .long (l7)), (5, .long (l4)), (0, .ref 45), (1, .ref 10), (2, .ref 12), (3, .int (iI (sd))), (4, .int (iI (mn)))]) C dX3_lay_35 (nlt rfl) rfl ?_
  refine Wx_pick [9, 7, 0, 1, 2, 3, 4, 5] ?_
  refine Wx_lv (lv' := [(9, .int (iI (0))), (7, .long (l7)), (0, .ref 45), (1, .ref 10), (2, .ref 12), (3, .int (iI (sd))), (4, .int (iI (mn))), (5, .long (l4))]) rfl ?_
  exact xl_lay45_10_12 ss mm C hQ 7 0 _ _ (by omega) (by omega) (by omega) (by rw [el7]; exact m36_and (by rw [el4, el3]; exact m36_all (wh_36 (by omega) (by omega) (by omega) (by omega)))) hHy8 hFy8
set_option maxRecDepth 10000 in
theorem t_X_44 {D : va_G} {ad : Nat → Nat} {cA : Nat → ClassId} : CTR mtX vX gX (wX D ad cA) k_X_44 := by
  intro g X hpre
  obtain ⟨h00, hei, hel, hdl, hH, hE⟩ := hpre
  have h0 : (0 : Int) ≤ g.1 0 ∧ g.1 0 ≤ (0 : Int) := hei 0 _ rfl
  have h1 : ((-2147483648) : Int) ≤ g.1 1 ∧ g.1 1 ≤ (2147483647 : Int) := hei 1 _ rfl
  have h2 : ((-2147483648) : Int) ≤ g.1 2 ∧ g.1 2 ≤ (2147483647 : Int) := hei 2 _ rfl
  refine MetX.imp (fun r X1 hp => ?_) (xf_lay45_10_12 (X0 := X) (sd := g.1 1 + 0) (mn := g.1 2 + 0) ⟨by omega, by omega⟩ ⟨by omega, by omega⟩ hH FR.rf)
  obtain ⟨rfl, hH1, hF1, hG1⟩ := hp
  have e1 := gokX_1 hG1
  exact (altM_mk 0 [1] rfl (ei_cons ⟨by show (0 : Int) ≤ g.1 0; omega, by show g.1 0 ≤ (0 : Int); omega⟩ (ei_cons ⟨by show ((-2147483648) : Int) ≤ g.1 1; omega, by show g.1 1 ≤ (2147483647 : Int); omega⟩ (ei_cons ⟨by show ((-2147483648) : Int) ≤ g.1 2; omega, by show g.1 2 ≤ (2147483647 : Int); omega⟩ (ei_cons ⟨by show (1 : Int) ≤ 1; omega, by show 1 ≤ (1 : Int); omega⟩ ei_nil)))) el_nil (by rfl) (dl_cons (gh_mk rfl (by show gokX 46 47 X1 = (1 : Int) + 0; omega)) dl_nil) gd_nil hH1 (wdX.2.1 X X1 (fun k i hp => hF1 k i (nprX (md := cMd k_X_44) (by decide +kernel) hp)) hE) hF1)
abbrev mdLN31 : List (Nat × Option Nat) := [(32, none), (31, some 3)]
set_option maxHeartbeats 4000000 in
set_option maxRecDepth 100000 in
theorem xl_layN31_10 {D : va_G} {ad : Nat → Nat} {cA : Nat → ClassId} {X : XT} {all op : Int64} (hH : HG vX X) (hF : FR mdLN31 X X) {E : ET} (C : CX E (wX D ad cA) cX3_layNeighbours 10 RX3 none { frames := 1, cells := 0, slots := 0, locals := 20 }) (hQ : EQ E (wX D ad cA) (fun r X1 => r = none ∧ HG vX X1 ∧ FR mdLN31 X X1 ∧ (∀ j, j < 64 → tb (X1.2.1 32 0) j = true → (X.1 10 0 ≤ (j : Int) ∧ tb op (j - (X.1 10 0).toNat) = true)) ∧ (∀ j, j < 64 → tb (X1.2.1 32 1) j = true → tb op (j + 1) = true) ∧ (∀ j, j < 64 → tb (X1.2.1 32 2) j = true → tb op ((X.1 10 0).toNat + j) = true) ∧ (∀ j, j < 64 → tb (X1.2.1 32 3) j = true → (1 ≤ (j : Int) ∧ tb op (j - 1) = true)))) : ∀ (n : Nat) (i : Int) (we : Int64), 6 - i < n → 0 ≤ i → i ≤ 6 → Wx E (wX D ad cA) 10 (PX (wX D ad cA) X) 6 [(8, .int (iI (i))), (6, .long (we)), (0, .ref 31), (1, .ref 10), (2, .long (all)), (4, .long (op))] [] := by
  intro n
  induction n with
  | zero => intro i we hn i0 i1; exfalso; omega
  | succ n ih =>
    intro i we hn i0 i1
    refine x_iload C dX3_layNeighbours_6 rfl ?_
    refine x_aload_n (i := 1) C dX3_layNeighbours_8 rfl rfl ?_
    refine x_getI C fkX_X3_25 (nlt rfl) rfl dX3_layNeighbours_9 ?_
    refine x_gen (fun v1 ev1 => ?_)
    have qv1 : (0 : Int) ≤ v1 ∧ v1 ≤ (6 : Int) := by
      rw [ev1]
      exact hH.rF (k := 10) (i := 1) rfl rfl
    refine x_icmp_ge (tgt := 36) C dX3_layNeighbours_12 (by decide) ⟨by omega, by omega⟩ ⟨by omega, by omega⟩ (fun h2 => ?_) (fun h2 => ?_)
    · refine x_lload C dX3_layNeighbours_36 rfl ?_
      refine x_aload_n (i := 1) C dX3_layNeighbours_38 rfl rfl ?_
      refine x_getI C fkX_X3_19 (nlt rfl) rfl dX3_layNeighbours_39 ?_
      refine x_gen (fun v3 ev3 => ?_)
      have qv3 : (0 : Int) ≤ v3 ∧ v3 ≤ (6 : Int) := by
        rw [ev3]
        exact hH.rF (k := 10) (i := 0) rfl rfl
      refine x_iconst C dX3_layNeighbours_42 ?_
      refine x_isub C dX3_layNeighbours_43 ?_
      refine x_lshl C dX3_layNeighbours_44 ?_
      refine x_genL (fun l4 el4 => ?_)
      refine x_lstore (lv' := [(8, .long (l4)), (6, .long (we)), (0, .ref 31), (1, .ref 10), (2, .long (all)), (4, .long (op))]) C dX3_layNeighbours_45 (nlt rfl) rfl ?_
      refine x_aload_n (i := 0) C dX3_layNeighbours_47 rfl rfl ?_
      refine x_getRs (r := 32) C fkX_X3_9 (nlt rfl) rfl (HG.rR hH (k := 31) (i := 0) rfl rfl) dX3_layNeighbours_48 ?_
      refine x_iconst C dX3_layNeighbours_51 ?_
      refine x_lload C dX3_layNeighbours_52 rfl ?_
      refine x_aload_n (i := 1) C dX3_layNeighbours_54 rfl rfl ?_
      refine x_getI C fkX_X3_19 (nlt rfl) rfl dX3_layNeighbours_55 ?_
      refine x_gen (fun v5 ev5 => ?_)
      have qv5 : (0 : Int) ≤ v5 ∧ v5 ≤ (6 : Int) := by
        rw [ev5]
        exact hH.rF (k := 10) (i := 0) rfl rfl
      refine x_lshl C dX3_layNeighbours_58 ?_
      refine x_genL (fun l6 el6 => ?_)
      refine x_lload_n (i := 2) C dX3_layNeighbours_59 rfl rfl ?_
      refine x_land C dX3_layNeighbours_60 ?_
      refine x_genL (fun l7 el7 => ?_)
      refine x_last C (nlt rfl) rfl rfl (nle rfl) (by omega) (by omega) dX3_layNeighbours_61 ?_
      refine x_gX (fun Yy8 eYy8 => ?_)
      have hHy8 : HG vX Yy8 := by
        rw [eYy8]
        exact hg_wLA hH (n := 4) (p := ((-9223372036854775808), 9223372036854775807)) (by decide +kernel) (by omega) (l64 _)
      have hFy8 : FR mdLN31 X Yy8 := by
        rw [eYy8]
        exact FR.upL hF (rfl)
      replace eYy8 : Yy8 = upL X 32 0 (l7) := eYy8
      refine x_aload_n (i := 0) C dX3_layNeighbours_62 rfl rfl ?_
      refine x_getRs (r := 32) C fkX_X3_9 (nlt rfl) rfl (HG.rR hHy8 (k := 31) (i := 0) rfl rfl) dX3_layNeighbours_63 ?_
      refine x_iconst C dX3_layNeighbours_66 ?_
      refine x_lload C dX3_layNeighbours_67 rfl ?_
      refine x_lload C dX3_layNeighbours_69 rfl ?_
      refine x_ldc2 C dX3_layNeighbours_71 cnX3_36 ?_
      refine x_lxor C dX3_layNeighbours_74 ?_
      refine x_genL (fun l9 el9 => ?_)
      refine x_land C dX3_layNeighbours_75 ?_
      refine x_genL (fun l10 el10 => ?_)
      refine x_iconst C dX3_layNeighbours_76 ?_
      refine x_lushr C dX3_layNeighbours_77 ?_
      refine x_genL (fun l11 el11 => ?_)
      refine x_last C (nlt rfl) rfl rfl (nle rfl) (by omega) (by omega) dX3_layNeighbours_78 ?_
      refine x_gX (fun Yy12 eYy12 => ?_)
      have hHy12 : HG vX Yy12 := by
        rw [eYy12]
        exact hg_wLA hHy8 (n := 4) (p := ((-9223372036854775808), 9223372036854775807)) (by decide +kernel) (by omega) (l64 _)
      have hFy12 : FR mdLN31 X Yy12 := by
        rw [eYy12]
        exact FR.upL hFy8 (rfl)
      replace eYy12 : Yy12 = upL Yy8 32 1 (l11) := eYy12
      refine x_aload_n (i := 0) C dX3_layNeighbours_79 rfl rfl ?_
      refine x_getRs (r := 32) C fkX_X3_9 (nlt rfl) rfl (HG.rR hHy12 (k := 31) (i := 0) rfl rfl) dX3_layNeighbours_80 ?_
      refine x_iconst C dX3_layNeighbours_83 ?_
      refine x_lload C dX3_layNeighbours_84 rfl ?_
      refine x_aload_n (i := 1) C dX3_layNeighbours_86 rfl rfl ?_
      refine x_getI C fkX_X3_19 (nlt rfl) rfl dX3_layNeighbours_87 ?_
      refine x_gen (fun v13 ev13 => ?_)
      have qv13 : (0 : Int) ≤ v13 ∧ v13 ≤ (6 : Int) := by
        rw [ev13]
        exact hHy12.rF (k := 10) (i := 0) rfl rfl
      refine x_lushr C dX3_layNeighbours_90 ?_
      refine x_genL (fun l14 el14 => ?_)
      refine x_last C (nlt rfl) rfl rfl (nle rfl) (by omega) (by omega) dX3_layNeighbours_91 ?_
      refine x_gX (fun Yy15 eYy15 => ?_)
      have hHy15 : HG vX Yy15 := by
        rw [eYy15]
        exact hg_wLA hHy12 (n := 4) (p := ((-9223372036854775808), 9223372036854775807)) (by decide +kernel) (by omega) (l64 _)
      have hFy15 : FR mdLN31 X Yy15 := by
        rw [eYy15]
        exact FR.upL hFy12 (rfl)
      replace eYy15 : Yy15 = upL Yy12 32 2 (l14) := eYy15
      refine x_aload_n (i := 0) C dX3_layNeighbours_92 rfl rfl ?_
      refine x_getRs (r := 32) C fkX_X3_9 (nlt rfl) rfl (HG.rR hHy15 (k := 31) (i := 0) rfl rfl) dX3_layNeighbours_93 ?_
      refine x_iconst C dX3_layNeighbours_96 ?_
      refine x_lload C dX3_layNeighbours_97 rfl ?_
      refine x_lload C dX3_layNeighbours_99 rfl ?_
      refine x_ldc2 C dX3_layNeighbours_101 cnX3_36 ?_
      refine x_lxor C dX3_layNeighbours_104 ?_
      refine x_genL (fun l16 el16 => ?_)
      refine x_land C dX3_layNeighbours_105 ?_
      refine x_genL (fun l17 el17 => ?_)
      refine x_iconst C dX3_layNeighbours_106 ?_
      refine x_lshl C dX3_layNeighbours_107 ?_
      refine x_genL (fun l18 el18 => ?_)
      refine x_last C (nlt rfl) rfl rfl (nle rfl) (by omega) (by omega) dX3_layNeighbours_108 ?_
      refine x_gX (fun Yy19 eYy19 => ?_)
      have hHy19 : HG vX Yy19 := by
        rw [eYy19]
        exact hg_wLA hHy15 (n := 4) (p := ((-9223372036854775808), 9223372036854775807)) (by decide +kernel) (by omega) (l64 _)
      have hFy19 : FR mdLN31 X Yy19 := by
        rw [eYy19]
        exact FR.upL hFy15 (rfl)
      replace eYy19 : Yy19 = upL Yy15 32 3 (l18) := eYy19
      refine x_aload_n (i := 0) C dX3_layNeighbours_109 rfl rfl ?_
      refine x_aload_n (i := 0) C dX3_layNeighbours_110 rfl rfl ?_
      refine x_getL C fkX_X3_38 (nlt rfl) rfl dX3_layNeighbours_111 ?_
      refine x_genL (fun l20 el20 => ?_)
      refine x_aload_n (i := 1) C dX3_layNeighbours_114 rfl rfl ?_
      refine x_getI C fkX_X3_19 (nlt rfl) rfl dX3_layNeighbours_115 ?_
      refine x_gen (fun v21 ev21 => ?_)
      have qv21 : (0 : Int) ≤ v21 ∧ v21 ≤ (6 : Int) := by
        rw [ev21]
        exact hHy19.rF (k := 10) (i := 0) rfl rfl
      refine x_lshl C dX3_layNeighbours_118 ?_
      refine x_genL (fun l22 el22 => ?_)
      refine x_lload_n (i := 2) C dX3_layNeighbours_119 rfl rfl ?_
      refine x_land C dX3_layNeighbours_120 ?_
      refine x_genL (fun l23 el23 => ?_)
      refine x_aload_n (i := 0) C dX3_layNeighbours_121 rfl rfl ?_
      refine x_getL C fkX_X3_38 (nlt rfl) rfl dX3_layNeighbours_122 ?_
      refine x_genL (fun l24 el24 => ?_)
      refine x_lload C dX3_layNeighbours_125 rfl ?_
      refine x_ldc2 C dX3_layNeighbours_127 cnX3_36 ?_
      refine x_lxor C dX3_layNeighbours_130 ?_
      refine x_genL (fun l25 el25 => ?_)
      refine x_land C dX3_layNeighbours_131 ?_
      refine x_genL (fun l26 el26 => ?_)
      refine x_iconst C dX3_layNeighbours_132 ?_
      refine x_lushr C dX3_layNeighbours_133 ?_
      refine x_genL (fun l27 el27 => ?_)
      refine x_lor C dX3_layNeighbours_134 ?_
      refine x_genL (fun l28 el28 => ?_)
      refine x_aload_n (i := 0) C dX3_layNeighbours_135 rfl rfl ?_
      refine x_getL C fkX_X3_38 (nlt rfl) rfl dX3_layNeighbours_136 ?_
      refine x_genL (fun l29 el29 => ?_)
      refine x_aload_n (i := 1) C dX3_layNeighbours_139 rfl rfl ?_
      refine x_getI C fkX_X3_19 (nlt rfl) rfl dX3_layNeighbours_140 ?_
      refine x_gen (fun v30 ev30 => ?_)
      have qv30 : (0 : Int) ≤ v30 ∧ v30 ≤ (6 : Int) := by
        rw [ev30]
        exact hHy19.rF (k := 10) (i := 0) rfl rfl
      refine x_lushr C dX3_layNeighbours_143 ?_
      refine x_genL (fun l31 el31 => ?_)
      refine x_lor C dX3_layNeighbours_144 ?_
      refine x_genL (fun l32 el32 => ?_)
      refine x_aload_n (i := 0) C dX3_layNeighbours_145 rfl rfl ?_
      refine x_getL C fkX_X3_38 (nlt rfl) rfl dX3_layNeighbours_146 ?_
      refine x_genL (fun l33 el33 => ?_)
      refine x_lload C dX3_layNeighbours_149 rfl ?_
      refine x_ldc2 C dX3_layNeighbours_151 cnX3_36 ?_
      refine x_lxor C dX3_layNeighbours_154 ?_
      refine x_genL (fun l34 el34 => ?_)
      refine x_land C dX3_layNeighbours_155 ?_
      refine x_genL (fun l35 el35 => ?_)
      refine x_iconst C dX3_layNeighbours_156 ?_
      refine x_lshl C dX3_layNeighbours_157 ?_
      refine x_genL (fun l36 el36 => ?_)
      refine x_lor C dX3_layNeighbours_158 ?_
      refine x_genL (fun l37 el37 => ?_)
      refine x_putL C pkX_X3_57 (nlt rfl) rfl dX3_layNeighbours_159 ?_
      refine x_gX (fun Yy38 eYy38 => ?_)
      have hHy38 : HG vX Yy38 := by
        rw [eYy38]
        exact hg_wLF hHy19 (p := ((-9223372036854775808), 9223372036854775807)) rfl (l64 _)
      have hFy38 : FR mdLN31 X Yy38 := by
        rw [eYy38]
        exact FR.upL hFy19 (rfl)
      replace eYy38 : Yy38 = upL Yy19 31 3 (l37) := eYy38
      exact x_vret C hQ dX3_layNeighbours_162 (⟨rfl, hHy38, hFy38, (by (have wv3 : v3 = X.1 10 0 := by rw [ev3]); (have wv5 : v5 = X.1 10 0 := by rw [ev5]); (have wv13 : v13 = X.1 10 0 := by rw [ev13, (hFy12 10 0 rfl).1]); (have wv21 : v21 = X.1 10 0 := by rw [ev21, (hFy19 10 0 rfl).1]); (have wv30 : v30 = X.1 10 0 := by rw [ev30, (hFy19 10 0 rfl).1]); (intro j hj ht); (rw [eYy38, upL_nc (by decide), eYy19, upL_ne (by decide), eYy15, upL_ne (by decide), eYy12, upL_ne (by decide), eYy8, upL_at] at ht); (rw [el7, tb_and, Bool.and_eq_true, el6, tb_shl] at ht); (have h1 := ht.1); (simp only [Bool.and_eq_true, Bool.not_eq_true', decide_eq_false_iff_not, decide_eq_true_eq] at h1); (have e1 : (v5 % 64).toNat = (X.1 10 0).toNat := by omega); (rw [e1] at h1); (exact ⟨by omega, h1.2.2⟩)), (by (have wv3 : v3 = X.1 10 0 := by rw [ev3]); (have wv5 : v5 = X.1 10 0 := by rw [ev5]); (have wv13 : v13 = X.1 10 0 := by rw [ev13, (hFy12 10 0 rfl).1]); (have wv21 : v21 = X.1 10 0 := by rw [ev21, (hFy19 10 0 rfl).1]); (have wv30 : v30 = X.1 10 0 := by rw [ev30, (hFy19 10 0 rfl).1]); (intro j hj ht); (rw [eYy38, upL_nc (by decide), eYy19, upL_ne (by decide), eYy15, upL_ne (by decide), eYy12, upL_at] at ht); (rw [el11, tb_ushr, el10, tb_and, Bool.and_eq_true] at ht); (rw [Nat.add_comm]); (exact ht.1)), (by (have wv3 : v3 = X.1 10 0 := by rw [ev3]); (have wv5 : v5 = X.1 10 0 := by rw [ev5]); (have wv13 : v13 = X.1 10 0 := by rw [ev13, (hFy12 10 0 rfl).1]); (have wv21 : v21 = X.1 10 0 := by rw [ev21, (hFy19 10 0 rfl).1]); (have wv30 : v30 = X.1 10 0 := by rw [ev30, (hFy19 10 0 rfl).1]); (intro j hj ht); (rw [eYy38, upL_nc (by decide), eYy19, upL_ne (by decide), eYy15, upL_at] at ht); (rw [el14, tb_ushr] at ht); (have e1 : (v13 % 64).toNat = (X.1 10 0).toNat := by omega); (rw [e1] at ht); (exact ht)), (by (have wv3 : v3 = X.1 10 0 := by rw [ev3]); (have wv5 : v5 = X.1 10 0 := by rw [ev5]); (have wv13 : v13 = X.1 10 0 := by rw [ev13, (hFy12 10 0 rfl).1]); (have wv21 : v21 = X.1 10 0 := by rw [ev21, (hFy19 10 0 rfl).1]); (have wv30 : v30 = X.1 10 0 := by rw [ev30, (hFy19 10 0 rfl).1]); (intro j hj ht); (rw [eYy38, upL_nc (by decide), eYy19, upL_at] at ht); (rw [el18, tb_shl, el17, tb_and] at ht); (simp only [Bool.and_eq_true, Bool.not_eq_true', decide_eq_false_iff_not, decide_eq_true_eq] at ht); (have h1 := ht.2); (exact ⟨by have := h1.1; have e1 : ((1 : Int) % 64).toNat = 1 := rfl; omega, h1.2.1⟩))⟩)
    · refine x_lload C dX3_layNeighbours_15 rfl ?_
      refine x_iload C dX3_layNeighbours_17 rfl ?_
      refine x_aload_n (i := 1) C dX3_layNeighbours_19 rfl rfl ?_
      refine x_getI C fkX_X3_19 (nlt rfl) rfl dX3_layNeighbours_20 ?_
      refine x_gen (fun v39 ev39 => ?_)
      have qv39 : (0 : Int) ≤ v39 ∧ v39 ≤ (6 : Int) := by
        rw [ev39]
        exact hH.rF (k := 10) (i := 0) rfl rfl
      refine x_imul C dX3_layNeighbours_23 ?_
      refine x_callSN (As := [.int (iI (i * v39))]) C (by exact (xf_bit (f := i * v39))) cnX3_28 rfl rfl (nle rfl) (by exact ⟨nle rfl, nle rfl⟩) dX3_layNeighbours_24 ?_
      rintro _ Xl40 ⟨hxl40, rfl⟩
      rw [hxl40]
      refine Wx_st (st' := [.long ((1 : Int64) <<< ((iI (i * v39)).toInt64 &&& 63)), .long (we)]) rfl ?_
      refine x_genL (fun l40 el40 => ?_)
      refine Wx_st (st' := [.long (l40), .long (we)]) rfl ?_
      refine x_lor C dX3_layNeighbours_27 ?_
      refine x_genL (fun l41 el41 => ?_)
      refine x_lstore (lv' := [(6, .long (l41)), (8, .int (iI (i))), (0, .ref 31), (1, .ref 10), (2, .long (all)), (4, .long (op))]) C dX3_layNeighbours_28 (nlt rfl) rfl ?_
      refine x_iinc (lv' := [(8, .int (iI (i + 1))), (6, .long (l41)), (0, .ref 31), (1, .ref 10), (2, .long (all)), (4, .long (op))]) C dX3_layNeighbours_30 rfl (nlt rfl) rfl ?_
      refine x_goto (tgt := 6) C dX3_layNeighbours_33 (by decide) ?_
      refine Wx_pick [8, 6, 0, 1, 2, 4] ?_
      refine Wx_lv (lv' := [(8, .int (iI (i + 1))), (6, .long (l41)), (0, .ref 31), (1, .ref 10), (2, .long (all)), (4, .long (op))]) rfl ?_
      exact ih _ _ (by omega) (by omega) (by omega)
set_option maxHeartbeats 4000000 in
set_option maxRecDepth 100000 in
theorem xf_layN31_10 {D : va_G} {ad : Nat → Nat} {cA : Nat → ClassId} {X : XT} {all op : Int64} (hH : HG vX X) (hF : FR mdLN31 X X) : MetX (wX D ad cA) yX3_layNeighbours cX3_layNeighbours 10 none 1 20 [.ref 31, .ref 10, .long (all), .long (op)] X (fun r X1 => r = none ∧ HG vX X1 ∧ FR mdLN31 X X1 ∧ (∀ j, j < 64 → tb (X1.2.1 32 0) j = true → (X.1 10 0 ≤ (j : Int) ∧ tb op (j - (X.1 10 0).toNat) = true)) ∧ (∀ j, j < 64 → tb (X1.2.1 32 1) j = true → tb op (j + 1) = true) ∧ (∀ j, j < 64 → tb (X1.2.1 32 2) j = true → tb op ((X.1 10 0).toNat + j) = true) ∧ (∀ j, j < 64 → tb (X1.2.1 32 3) j = true → (1 ≤ (j : Int) ∧ tb op (j - 1) = true))) := by
  refine MetX.mk (own := RX3) (by decide +kernel) rfl (nle rfl) (fun E C hQ => ?_)
  refine Wx_lv (lv' := [(0, .ref 31), (1, .ref 10), (2, .long (all)), (4, .long (op))]) rfl ?_
  refine x_lconst C dX3_layNeighbours_0 ?_
  refine x_eqL (b := 0) rfl ?_
  refine x_lstore (lv' := [(6, .long (0)), (0, .ref 31), (1, .ref 10), (2, .long (all)), (4, .long (op))]) C dX3_layNeighbours_1 (nlt rfl) rfl ?_
  refine x_iconst C dX3_layNeighbours_3 ?_
  refine x_istore (lv' := [(8, .int (iI (0))), (6, .long (0)), (0, .ref 31), (1, .ref 10), (2, .long (all)), (4, .long (op))]) C dX3_layNeighbours_4 (nlt rfl) rfl ?_
  refine Wx_pick [8, 6, 0, 1, 2, 4] ?_
  refine Wx_lv (lv' := [(8, .int (iI (0))), (6, .long (0)), (0, .ref 31), (1, .ref 10), (2, .long (all)), (4, .long (op))]) rfl ?_
  exact xl_layN31_10 hH hF C hQ 7 0 0 (by omega) (by omega) (by omega)
set_option maxHeartbeats 4000000 in
set_option maxRecDepth 100000 in
theorem xl_lay31_10_12 {D : va_G} {ad : Nat → Nat} {cA : Nat → ClassId} {X0 : XT} {all : Int64} {sd mn : Int} (ss : inR sd) (mm : inR mn) {E : ET} (C : CX E (wX D ad cA) cX3_lay 10 RX3 none { frames := 2, cells := 0, slots := 0, locals := 49 }) (hQ : EQ E (wX D ad cA) (fun r X1 => r = none ∧ HG vX X1 ∧ FR (cMd k_X_52) X0 X1 ∧ GOKP 32 33 X1)) : ∀ (n : Nat) (i : Int) (o : Int64) (X : XT), 6 - i < n → 0 ≤ i → i ≤ 6 → m36 o → HG vX X → FR (cMd k_X_52) X0 X → Wx E (wX D ad cA) 10 (PX (wX D ad cA) X) 37 [(9, .int (iI (i))), (7, .long (o)), (0, .ref 31), (1, .ref 10), (2, .ref 12), (3, .int (iI (sd))), (4, .int (iI (mn))), (5, .long (all))] [] := by
  intro n
  induction n with
  | zero => intro i o X hn i0 i1 om hH hF; exfalso; omega
  | succ n ih =>
    intro i o X hn i0 i1 om hH hF
    unfold inR at ss mm
    refine x_iload C dX3_lay_37 rfl ?_
    refine x_aload_n (i := 1) C dX3_lay_39 rfl rfl ?_
    refine x_getI C fkX_X3_41 (nlt rfl) rfl dX3_lay_40 ?_
    refine x_gen (fun v1 ev1 => ?_)
    have qv1 : (0 : Int) ≤ v1 ∧ v1 ≤ (6 : Int) := by
      rw [ev1]
      exact hH.rF (k := 10) (i := 4) rfl rfl
    refine x_icmp_ge (tgt := 113) C dX3_lay_43 (by decide) ⟨by omega, by omega⟩ ⟨by omega, by omega⟩ (fun h2 => ?_) (fun h2 => ?_)
    · refine x_aload_n (i := 0) C dX3_lay_113 rfl rfl ?_
      refine x_aload_n (i := 0) C dX3_lay_114 rfl rfl ?_
      refine x_getL C fkX_X3_38 (nlt rfl) rfl dX3_lay_115 ?_
      refine x_genL (fun l3 el3 => ?_)
      refine x_aload_n (i := 1) C dX3_lay_118 rfl rfl ?_
      refine x_getL C fkX_X3_47 (nlt rfl) rfl dX3_lay_119 ?_
      refine x_genL (fun l4 el4 => ?_)
      refine x_lor C dX3_lay_122 ?_
      refine x_genL (fun l5 el5 => ?_)
      refine x_putL C pkX_X3_50 (nlt rfl) rfl dX3_lay_123 ?_
      refine x_gX (fun Yy6 eYy6 => ?_)
      have hHy6 : HG vX Yy6 := by
        rw [eYy6]
        exact hg_wLF hH (p := ((-9223372036854775808), 9223372036854775807)) rfl (l64 _)
      have hFy6 : FR (cMd k_X_52) X0 Yy6 := by
        rw [eYy6]
        exact FR.upL hF (rfl)
      replace eYy6 : Yy6 = upL X 31 4 (l5) := eYy6
      refine x_aload_n (i := 0) C dX3_lay_126 rfl rfl ?_
      refine x_getRs (r := 33) C fkX_X3_15 (nlt rfl) rfl (HG.rR hHy6 (k := 31) (i := 1) rfl rfl) dX3_lay_127 ?_
      refine x_iconst C dX3_lay_130 ?_
      refine x_aload_n (i := 1) C dX3_lay_131 rfl rfl ?_
      refine x_getI C fkX_X3_19 (nlt rfl) rfl dX3_lay_132 ?_
      refine x_gen (fun v7 ev7 => ?_)
      have qv7 : (0 : Int) ≤ v7 ∧ v7 ≤ (6 : Int) := by
        rw [ev7]
        exact hHy6.rF (k := 10) (i := 0) rfl rfl
      have wv7 : v7 = X0.1 10 0 := by rw [ev7, (hFy6 10 0 rfl).1]
      refine x_ineg C dX3_lay_135 ?_
      refine x_iast C (nlt rfl) rfl rfl (nle rfl) (by omega) (by omega) dX3_lay_136 ?_
      refine x_gX (fun Yy8 eYy8 => ?_)
      have hHy8 : HG vX Yy8 := by
        rw [eYy8]
        exact hg_wA hHy6 (n := 4) (p := ((-6), 6)) (by decide +kernel) (by omega) ⟨by omega, by omega⟩
      have hFy8 : FR (cMd k_X_52) X0 Yy8 := by
        rw [eYy8]
        exact FR.upI hFy6 (rfl)
      replace eYy8 : Yy8 = upI Yy6 33 0 (-v7) := eYy8
      refine x_aload_n (i := 0) C dX3_lay_137 rfl rfl ?_
      refine x_getRs (r := 33) C fkX_X3_15 (nlt rfl) rfl (HG.rR hHy8 (k := 31) (i := 1) rfl rfl) dX3_lay_138 ?_
      refine x_iconst C dX3_lay_141 ?_
      refine x_iconst C dX3_lay_142 ?_
      refine x_iast C (nlt rfl) rfl rfl (nle rfl) (by omega) (by omega) dX3_lay_143 ?_
      refine x_gX (fun Yy9 eYy9 => ?_)
      have hHy9 : HG vX Yy9 := by
        rw [eYy9]
        exact hg_wA hHy8 (n := 4) (p := ((-6), 6)) (by decide +kernel) (by omega) ⟨by omega, by omega⟩
      have hFy9 : FR (cMd k_X_52) X0 Yy9 := by
        rw [eYy9]
        exact FR.upI hFy8 (rfl)
      replace eYy9 : Yy9 = upI Yy8 33 1 (1) := eYy9
      refine x_aload_n (i := 0) C dX3_lay_144 rfl rfl ?_
      refine x_getRs (r := 33) C fkX_X3_15 (nlt rfl) rfl (HG.rR hHy9 (k := 31) (i := 1) rfl rfl) dX3_lay_145 ?_
      refine x_iconst C dX3_lay_148 ?_
      refine x_aload_n (i := 1) C dX3_lay_149 rfl rfl ?_
      refine x_getI C fkX_X3_19 (nlt rfl) rfl dX3_lay_150 ?_
      refine x_gen (fun v10 ev10 => ?_)
      have qv10 : (0 : Int) ≤ v10 ∧ v10 ≤ (6 : Int) := by
        rw [ev10]
        exact hHy9.rF (k := 10) (i := 0) rfl rfl
      have wv10 : v10 = X0.1 10 0 := by rw [ev10, (hFy9 10 0 rfl).1]
      refine x_iast C (nlt rfl) rfl rfl (nle rfl) (by omega) (by omega) dX3_lay_153 ?_
      refine x_gX (fun Yy11 eYy11 => ?_)
      have hHy11 : HG vX Yy11 := by
        rw [eYy11]
        exact hg_wA hHy9 (n := 4) (p := ((-6), 6)) (by decide +kernel) (by omega) ⟨by omega, by omega⟩
      have hFy11 : FR (cMd k_X_52) X0 Yy11 := by
        rw [eYy11]
        exact FR.upI hFy9 (rfl)
      replace eYy11 : Yy11 = upI Yy9 33 2 (v10) := eYy11
      refine x_aload_n (i := 0) C dX3_lay_154 rfl rfl ?_
      refine x_getRs (r := 33) C fkX_X3_15 (nlt rfl) rfl (HG.rR hHy11 (k := 31) (i := 1) rfl rfl) dX3_lay_155 ?_
      refine x_iconst C dX3_lay_158 ?_
      refine x_iconst C dX3_lay_159 ?_
      refine x_iast C (nlt rfl) rfl rfl (nle rfl) (by omega) (by omega) dX3_lay_160 ?_
      refine x_gX (fun Yy12 eYy12 => ?_)
      have hHy12 : HG vX Yy12 := by
        rw [eYy12]
        exact hg_wA hHy11 (n := 4) (p := ((-6), 6)) (by decide +kernel) (by omega) ⟨by omega, by omega⟩
      have hFy12 : FR (cMd k_X_52) X0 Yy12 := by
        rw [eYy12]
        exact FR.upI hFy11 (rfl)
      replace eYy12 : Yy12 = upI Yy11 33 3 ((-1)) := eYy12
      refine x_aload_n (i := 0) C dX3_lay_161 rfl rfl ?_
      refine x_aload_n (i := 1) C dX3_lay_162 rfl rfl ?_
      refine x_lload C dX3_lay_163 rfl ?_
      refine x_lload C dX3_lay_165 rfl ?_
      refine x_callV (As := [.ref 10, .long (all), .long (o)]) C (by exact (xf_layN31_10 (all := all) (op := o) hHy12 FR.rf)) ckX3_53 im_X3_layNeighbours se_X3_layNeighbours (nlt rfl) rfl rfl rfl rfl (nle rfl) (by exact ⟨nle rfl, nle rfl⟩) dX3_lay_167 ?_
      rintro _ Yy13 ⟨rfl, hHy13, hGy13, P0y13, P1y13, P2y13, P3y13⟩
      have hFy13 : FR (cMd k_X_52) X0 Yy13 := FR.tr hFy12 hGy13 (by decide)
      refine Wx_st (st' := []) rfl ?_
      exact x_vret C hQ dX3_lay_170 (⟨rfl, hHy13, hFy13, by (intro s hs j hj ht); (have lt : ∀ i, tb o i = true → i < 36 := fun i hi => by (by_cases q : i < 36); (exact q); (rw [m36_iff.mp om i (by omega)] at hi; cases hi)); (rcases (show s = 0 ∨ s = 1 ∨ s = 2 ∨ s = 3 by omega) with rfl | rfl | rfl | rfl); ((have p := P0y13 j hj ht); (have := lt _ p.2); (rw [(hGy13 33 0 rfl).1, eYy12, upI_ne (by decide), eYy11, upI_ne (by decide), eYy9, upI_ne (by decide), eYy8, upI_at]); (have p1 := p.1); (have wq := (show Yy12.1 10 0 = v10 by rw [(hFy12 10 0 rfl).1, wv10])); (rw [wq] at this p1); (omega)); ((have := lt _ (P1y13 j hj ht)); (rw [(hGy13 33 1 rfl).1, eYy12, upI_ne (by decide), eYy11, upI_ne (by decide), eYy9, upI_at]); (omega)); ((have := lt _ (P2y13 j hj ht)); (rw [(hGy13 33 2 rfl).1, eYy12, upI_ne (by decide), eYy11, upI_at]); (have wq := (show Yy12.1 10 0 = v10 by rw [(hFy12 10 0 rfl).1, wv10])); (rw [wq] at this); (omega)); ((have p := P3y13 j hj ht); (have := lt _ p.2); (rw [(hGy13 33 3 rfl).1, eYy12, upI_at]); (have p1 := p.1); (omega))⟩)
    · refine x_iload C dX3_lay_46 rfl ?_
      refine x_iload C dX3_lay_48 rfl ?_
      refine x_icmp_eq (tgt := 107) C dX3_lay_50 (by decide) ⟨by omega, by omega⟩ ⟨by omega, by omega⟩ (fun h14 => ?_) (fun h14 => ?_)
      · refine x_iinc (lv' := [(9, .int (iI (i + 1))), (7, .long (o)), (0, .ref 31), (1, .ref 10), (2, .ref 12), (3, .int (iI (sd))), (4, .int (iI (mn))), (5, .long (all))]) C dX3_lay_107 rfl (nlt rfl) rfl ?_
        refine x_goto (tgt := 37) C dX3_lay_110 (by decide) ?_
        refine Wx_pick [9, 7, 0, 1, 2, 3, 4, 5] ?_
        refine Wx_lv (lv' := [(9, .int (iI (i + 1))), (7, .long (o)), (0, .ref 31), (1, .ref 10), (2, .ref 12), (3, .int (iI (sd))), (4, .int (iI (mn))), (5, .long (all))]) rfl ?_
        exact ih _ _ _ (by omega) (by omega) (by omega) om hH hF
      · refine x_aload_n (i := 2) C dX3_lay_53 rfl rfl ?_
        refine x_iload C dX3_lay_54 rfl ?_
        refine x_iald C (nlt rfl) rfl rfl (nle rfl) (by omega) (by omega) dX3_lay_56 ?_
        refine x_gen (fun v15 ev15 => ?_)
        have qv15 : ((-2147483648) : Int) ≤ v15 ∧ v15 ≤ (2147483647 : Int) := by
          rw [ev15]
          exact hH.rA (k := 12) (n := 6) (p := ((-2147483648), 2147483647)) (nlt rfl) rfl (by decide +kernel) (by omega)
        refine x_iconst C dX3_lay_57 ?_
        refine x_icmp_eq (tgt := 107) C dX3_lay_58 (by decide) ⟨by omega, by omega⟩ ⟨by omega, by omega⟩ (fun h16 => ?_) (fun h16 => ?_)
        · refine x_iinc (lv' := [(9, .int (iI (i + 1))), (7, .long (o)), (0, .ref 31), (1, .ref 10), (2, .ref 12), (3, .int (iI (sd))), (4, .int (iI (mn))), (5, .long (all))]) C dX3_lay_107 rfl (nlt rfl) rfl ?_
          refine x_goto (tgt := 37) C dX3_lay_110 (by decide) ?_
          refine Wx_pick [9, 7, 0, 1, 2, 3, 4, 5] ?_
          refine Wx_lv (lv' := [(9, .int (iI (i + 1))), (7, .long (o)), (0, .ref 31), (1, .ref 10), (2, .ref 12), (3, .int (iI (sd))), (4, .int (iI (mn))), (5, .long (all))]) rfl ?_
          exact ih _ _ _ (by omega) (by omega) (by omega) om hH hF
        · refine x_aload_n (i := 1) C dX3_lay_61 rfl rfl ?_
          refine x_getRs (r := 11) C fkX_X3_44 (nlt rfl) rfl (HG.rR hH (k := 10) (i := 5) rfl rfl) dX3_lay_62 ?_
          refine x_iload C dX3_lay_65 rfl ?_
          refine x_iald C (nlt rfl) rfl rfl (nle rfl) (by omega) (by omega) dX3_lay_67 ?_
          refine x_gen (fun v17 ev17 => ?_)
          have qv17 : ((-2147483648) : Int) ≤ v17 ∧ v17 ≤ (2147483647 : Int) := by
            rw [ev17]
            exact hH.rA (k := 11) (n := 6) (p := ((-2147483648), 2147483647)) (nlt rfl) rfl (by decide +kernel) (by omega)
          refine x_iload_n (i := 3) C dX3_lay_68 rfl rfl ?_
          refine x_icmp_ne (tgt := 91) C dX3_lay_69 (by decide) ⟨by omega, by omega⟩ ⟨by omega, by omega⟩ (fun h18 => ?_) (fun h18 => ?_)
          · refine x_aload_n (i := 0) C dX3_lay_91 rfl rfl ?_
            refine x_dup C dX3_lay_92 rfl ?_
            refine x_getL C fkX_X3_38 (nlt rfl) rfl dX3_lay_93 ?_
            refine x_genL (fun l19 el19 => ?_)
            refine x_aload_n (i := 2) C dX3_lay_96 rfl rfl ?_
            refine x_iload C dX3_lay_97 rfl ?_
            refine x_iald C (nlt rfl) rfl rfl (nle rfl) (by omega) (by omega) dX3_lay_99 ?_
            refine x_gen (fun v20 ev20 => ?_)
            have qv20 : ((-2147483648) : Int) ≤ v20 ∧ v20 ≤ (2147483647 : Int) := by
              rw [ev20]
              exact hH.rA (k := 12) (n := 6) (p := ((-2147483648), 2147483647)) (nlt rfl) rfl (by decide +kernel) (by omega)
            refine x_callSN (As := [.int (iI (v20))]) C (by exact (xf_bit (f := v20))) cnX3_28 rfl rfl (nle rfl) (by exact ⟨nle rfl, nle rfl⟩) dX3_lay_100 ?_
            rintro _ Xl21 ⟨hxl21, rfl⟩
            rw [hxl21]
            refine Wx_st (st' := [.long ((1 : Int64) <<< ((iI (v20)).toInt64 &&& 63)), .long (l19), .ref 31]) rfl ?_
            refine x_genL (fun l21 el21 => ?_)
            refine Wx_st (st' := [.long (l21), .long (l19), .ref 31]) rfl ?_
            refine x_lor C dX3_lay_103 ?_
            refine x_genL (fun l22 el22 => ?_)
            refine x_putL C pkX_X3_38 (nlt rfl) rfl dX3_lay_104 ?_
            refine x_gX (fun Yy23 eYy23 => ?_)
            have hHy23 : HG vX Yy23 := by
              rw [eYy23]
              exact hg_wLF hH (p := ((-9223372036854775808), 9223372036854775807)) rfl (l64 _)
            have hFy23 : FR (cMd k_X_52) X0 Yy23 := by
              rw [eYy23]
              exact FR.upL hF (rfl)
            replace eYy23 : Yy23 = upL X 31 2 (l22) := eYy23
            refine x_iinc (lv' := [(9, .int (iI (i + 1))), (7, .long (o)), (0, .ref 31), (1, .ref 10), (2, .ref 12), (3, .int (iI (sd))), (4, .int (iI (mn))), (5, .long (all))]) C dX3_lay_107 rfl (nlt rfl) rfl ?_
            refine x_goto (tgt := 37) C dX3_lay_110 (by decide) ?_
            refine Wx_pick [9, 7, 0, 1, 2, 3, 4, 5] ?_
            refine Wx_lv (lv' := [(9, .int (iI (i + 1))), (7, .long (o)), (0, .ref 31), (1, .ref 10), (2, .ref 12), (3, .int (iI (sd))), (4, .int (iI (mn))), (5, .long (all))]) rfl ?_
            exact ih _ _ _ (by omega) (by omega) (by omega) om hHy23 hFy23
          · refine x_lload C dX3_lay_72 rfl ?_
            refine x_aload_n (i := 2) C dX3_lay_74 rfl rfl ?_
            refine x_iload C dX3_lay_75 rfl ?_
            refine x_iald C (nlt rfl) rfl rfl (nle rfl) (by omega) (by omega) dX3_lay_77 ?_
            refine x_gen (fun v24 ev24 => ?_)
            have qv24 : ((-2147483648) : Int) ≤ v24 ∧ v24 ≤ (2147483647 : Int) := by
              rw [ev24]
              exact hH.rA (k := 12) (n := 6) (p := ((-2147483648), 2147483647)) (nlt rfl) rfl (by decide +kernel) (by omega)
            refine x_callSN (As := [.int (iI (v24))]) C (by exact (xf_bit (f := v24))) cnX3_28 rfl rfl (nle rfl) (by exact ⟨nle rfl, nle rfl⟩) dX3_lay_78 ?_
            rintro _ Xl25 ⟨hxl25, rfl⟩
            rw [hxl25]
            refine Wx_st (st' := [.long ((1 : Int64) <<< ((iI (v24)).toInt64 &&& 63)), .long (o)]) rfl ?_
            refine x_genL (fun l25 el25 => ?_)
            refine Wx_st (st' := [.long (l25), .long (o)]) rfl ?_
            refine x_ldc2 C dX3_lay_81 cnX3_36 ?_
            refine x_lxor C dX3_lay_84 ?_
            refine x_genL (fun l26 el26 => ?_)
            refine x_land C dX3_lay_85 ?_
            refine x_genL (fun l27 el27 => ?_)
            refine x_lstore (lv' := [(7, .long (l27)), (9, .int (iI (i))), (0, .ref 31), (1, .ref 10), (2, .ref 12), (3, .int (iI (sd))), (4, .int (iI (mn))), (5, .long (all))]) C dX3_lay_86 (nlt rfl) rfl ?_
            refine x_goto (tgt := 107) C dX3_lay_88 (by decide) ?_
            refine x_iinc (lv' := [(9, .int (iI (i + 1))), (7, .long (l27)), (0, .ref 31), (1, .ref 10), (2, .ref 12), (3, .int (iI (sd))), (4, .int (iI (mn))), (5, .long (all))]) C dX3_lay_107 rfl (nlt rfl) rfl ?_
            refine x_goto (tgt := 37) C dX3_lay_110 (by decide) ?_
            refine Wx_pick [9, 7, 0, 1, 2, 3, 4, 5] ?_
            refine Wx_lv (lv' := [(9, .int (iI (i + 1))), (7, .long (l27)), (0, .ref 31), (1, .ref 10), (2, .ref 12), (3, .int (iI (sd))), (4, .int (iI (mn))), (5, .long (all))]) rfl ?_
            exact ih _ _ _ (by omega) (by omega) (by omega) (by rw [el27]; exact m36_and om) hH hF
set_option maxHeartbeats 4000000 in
set_option maxRecDepth 100000 in
theorem xf_lay31_10_12 {D : va_G} {ad : Nat → Nat} {cA : Nat → ClassId} {X0 : XT} {sd mn : Int} (ss : inR sd) (mm : inR mn) (hH : HG vX X0) (hF : FR (cMd k_X_52) X0 X0) : MetX (wX D ad cA) yX3_lay cX3_lay 10 none 2 49 [.ref 31, .ref 10, .ref 12, .int (iI (sd)), .int (iI (mn))] X0 (fun r X1 => r = none ∧ HG vX X1 ∧ FR (cMd k_X_52) X0 X1 ∧ GOKP 32 33 X1) := by
  have ss' := ss
  have mm' := mm
  unfold inR at ss' mm'
  refine MetX.mk (own := RX3) (by decide +kernel) rfl (nle rfl) (fun E C hQ => ?_)
  refine Wx_lv (lv' := [(0, .ref 31), (1, .ref 10), (2, .ref 12), (3, .int (iI (sd))), (4, .int (iI (mn)))]) rfl ?_
  refine x_aload_n (i := 1) C dX3_lay_0 rfl rfl ?_
  refine x_getI C fkX_X3_19 (nlt rfl) rfl dX3_lay_1 ?_
  refine x_gen (fun v1 ev1 => ?_)
  have qv1 : (0 : Int) ≤ v1 ∧ v1 ≤ (6 : Int) := by
    rw [ev1]
    exact hH.rF (k := 10) (i := 0) rfl rfl
  refine x_aload_n (i := 1) C dX3_lay_4 rfl rfl ?_
  refine x_getI C fkX_X3_25 (nlt rfl) rfl dX3_lay_5 ?_
  refine x_gen (fun v2 ev2 => ?_)
  have qv2 : (0 : Int) ≤ v2 ∧ v2 ≤ (6 : Int) := by
    rw [ev2]
    exact hH.rF (k := 10) (i := 1) rfl rfl
  refine x_imul C dX3_lay_8 ?_
  refine x_callSN (As := [.int (iI (v1 * v2))]) C (by exact (xf_bit (f := v1 * v2))) cnX3_28 rfl rfl (nle rfl) (by exact ⟨nle rfl, nle rfl⟩) dX3_lay_9 ?_
  rintro _ Xl3 ⟨hxl3, rfl⟩
  rw [hxl3]
  refine Wx_st (st' := [.long ((1 : Int64) <<< ((iI (v1 * v2)).toInt64 &&& 63))]) rfl ?_
  refine x_genL (fun l3 el3 => ?_)
  refine Wx_st (st' := [.long (l3)]) rfl ?_
  refine x_lconst C dX3_lay_12 ?_
  refine x_eqL (b := 1) rfl ?_
  refine x_lsub C dX3_lay_13 ?_
  refine x_genL (fun l4 el4 => ?_)
  refine x_lstore (lv' := [(5, .long (l4)), (0, .ref 31), (1, .ref 10), (2, .ref 12), (3, .int (iI (sd))), (4, .int (iI (mn)))]) C dX3_lay_14 (nlt rfl) rfl ?_
  refine x_lload C dX3_lay_16 rfl ?_
  refine x_aload_n (i := 1) C dX3_lay_18 rfl rfl ?_
  refine x_getL C fkX_X3_32 (nlt rfl) rfl dX3_lay_19 ?_
  refine x_genL (fun l5 el5 => ?_)
  refine x_ldc2 C dX3_lay_22 cnX3_36 ?_
  refine x_lxor C dX3_lay_25 ?_
  refine x_genL (fun l6 el6 => ?_)
  refine x_land C dX3_lay_26 ?_
  refine x_genL (fun l7 el7 => ?_)
  refine x_lstore (lv' := [(7, .long (l7)), (5, .long (l4)), (0, .ref 31), (1, .ref 10), (2, .ref 12), (3, .int (iI (sd))), (4, .int (iI (mn)))]) C dX3_lay_27 (nlt rfl) rfl ?_
  refine x_aload_n (i := 0) C dX3_lay_29 rfl rfl ?_
  refine x_lconst C dX3_lay_30 ?_
  refine x_eqL (b := 0) rfl ?_
  refine x_putL C pkX_X3_38 (nlt rfl) rfl dX3_lay_31 ?_
  refine x_gX (fun Yy8 eYy8 => ?_)
  have hHy8 : HG vX Yy8 := by
    rw [eYy8]
    exact hg_wLF hH (p := ((-9223372036854775808), 9223372036854775807)) rfl (l64 _)
  have hFy8 : FR (cMd k_X_52) X0 Yy8 := by
    rw [eYy8]
    exact FR.upL hF (rfl)
  replace eYy8 : Yy8 = upL X0 31 2 (0) := eYy8
  refine x_iconst C dX3_lay_34 ?_
  refine x_istore (lv' := [(9, .int (iI (0))), (7, .long (l7)), (5, .long (l4)), (0, .ref 31), (1, .ref 10), (2, .ref 12), (3, .int (iI (sd))), (4, .int (iI (mn)))]) C dX3_lay_35 (nlt rfl) rfl ?_
  refine Wx_pick [9, 7, 0, 1, 2, 3, 4, 5] ?_
  refine Wx_lv (lv' := [(9, .int (iI (0))), (7, .long (l7)), (0, .ref 31), (1, .ref 10), (2, .ref 12), (3, .int (iI (sd))), (4, .int (iI (mn))), (5, .long (l4))]) rfl ?_
  exact xl_lay31_10_12 ss mm C hQ 7 0 _ _ (by omega) (by omega) (by omega) (by rw [el7]; exact m36_and (by rw [el4, el3]; exact m36_all (wh_36 (by omega) (by omega) (by omega) (by omega)))) hHy8 hFy8
set_option maxRecDepth 10000 in
theorem t_X_52 {D : va_G} {ad : Nat → Nat} {cA : Nat → ClassId} : CTR mtX vX gX (wX D ad cA) k_X_52 := by
  intro g X hpre
  obtain ⟨h00, hei, hel, hdl, hH, hE⟩ := hpre
  have h0 : (0 : Int) ≤ g.1 0 ∧ g.1 0 ≤ (0 : Int) := hei 0 _ rfl
  have h1 : ((-2147483648) : Int) ≤ g.1 1 ∧ g.1 1 ≤ (2147483647 : Int) := hei 1 _ rfl
  have h2 : ((-2147483648) : Int) ≤ g.1 2 ∧ g.1 2 ≤ (2147483647 : Int) := hei 2 _ rfl
  refine MetX.imp (fun r X1 hp => ?_) (xf_lay31_10_12 (X0 := X) (sd := g.1 1 + 0) (mn := g.1 2 + 0) ⟨by omega, by omega⟩ ⟨by omega, by omega⟩ hH FR.rf)
  obtain ⟨rfl, hH1, hF1, hG1⟩ := hp
  have e1 := gokX_1 hG1
  exact (altM_mk 0 [1] rfl (ei_cons ⟨by show (0 : Int) ≤ g.1 0; omega, by show g.1 0 ≤ (0 : Int); omega⟩ (ei_cons ⟨by show ((-2147483648) : Int) ≤ g.1 1; omega, by show g.1 1 ≤ (2147483647 : Int); omega⟩ (ei_cons ⟨by show ((-2147483648) : Int) ≤ g.1 2; omega, by show g.1 2 ≤ (2147483647 : Int); omega⟩ (ei_cons ⟨by show (1 : Int) ≤ 1; omega, by show 1 ≤ (1 : Int); omega⟩ ei_nil)))) el_nil (by rfl) (dl_cons (gh_mk rfl (by show gokX 32 33 X1 = (1 : Int) + 0; omega)) dl_nil) gd_nil hH1 (wdX.2.1 X X1 (fun k i hp => hF1 k i (nprX (md := cMd k_X_52) (by decide +kernel) hp)) hE) hF1)
set_option maxHeartbeats 4000000 in
set_option maxRecDepth 100000 in
theorem xl_layN31_7 {D : va_G} {ad : Nat → Nat} {cA : Nat → ClassId} {X : XT} {all op : Int64} (hH : HG vX X) (hF : FR mdLN31 X X) {E : ET} (C : CX E (wX D ad cA) cX3_layNeighbours 10 RX3 none { frames := 1, cells := 0, slots := 0, locals := 20 }) (hQ : EQ E (wX D ad cA) (fun r X1 => r = none ∧ HG vX X1 ∧ FR mdLN31 X X1 ∧ (∀ j, j < 64 → tb (X1.2.1 32 0) j = true → (X.1 7 0 ≤ (j : Int) ∧ tb op (j - (X.1 7 0).toNat) = true)) ∧ (∀ j, j < 64 → tb (X1.2.1 32 1) j = true → tb op (j + 1) = true) ∧ (∀ j, j < 64 → tb (X1.2.1 32 2) j = true → tb op ((X.1 7 0).toNat + j) = true) ∧ (∀ j, j < 64 → tb (X1.2.1 32 3) j = true → (1 ≤ (j : Int) ∧ tb op (j - 1) = true)))) : ∀ (n : Nat) (i : Int) (we : Int64), 6 - i < n → 0 ≤ i → i ≤ 6 → Wx E (wX D ad cA) 10 (PX (wX D ad cA) X) 6 [(8, .int (iI (i))), (6, .long (we)), (0, .ref 31), (1, .ref 7), (2, .long (all)), (4, .long (op))] [] := by
  intro n
  induction n with
  | zero => intro i we hn i0 i1; exfalso; omega
  | succ n ih =>
    intro i we hn i0 i1
    refine x_iload C dX3_layNeighbours_6 rfl ?_
    refine x_aload_n (i := 1) C dX3_layNeighbours_8 rfl rfl ?_
    refine x_getI C fkX_X3_25 (nlt rfl) rfl dX3_layNeighbours_9 ?_
    refine x_gen (fun v1 ev1 => ?_)
    have qv1 : (0 : Int) ≤ v1 ∧ v1 ≤ (6 : Int) := by
      rw [ev1]
      exact hH.rF (k := 7) (i := 1) rfl rfl
    refine x_icmp_ge (tgt := 36) C dX3_layNeighbours_12 (by decide) ⟨by omega, by omega⟩ ⟨by omega, by omega⟩ (fun h2 => ?_) (fun h2 => ?_)
    · refine x_lload C dX3_layNeighbours_36 rfl ?_
      refine x_aload_n (i := 1) C dX3_layNeighbours_38 rfl rfl ?_
      refine x_getI C fkX_X3_19 (nlt rfl) rfl dX3_layNeighbours_39 ?_
      refine x_gen (fun v3 ev3 => ?_)
      have qv3 : (0 : Int) ≤ v3 ∧ v3 ≤ (6 : Int) := by
        rw [ev3]
        exact hH.rF (k := 7) (i := 0) rfl rfl
      refine x_iconst C dX3_layNeighbours_42 ?_
      refine x_isub C dX3_layNeighbours_43 ?_
      refine x_lshl C dX3_layNeighbours_44 ?_
      refine x_genL (fun l4 el4 => ?_)
      refine x_lstore (lv' := [(8, .long (l4)), (6, .long (we)), (0, .ref 31), (1, .ref 7), (2, .long (all)), (4, .long (op))]) C dX3_layNeighbours_45 (nlt rfl) rfl ?_
      refine x_aload_n (i := 0) C dX3_layNeighbours_47 rfl rfl ?_
      refine x_getRs (r := 32) C fkX_X3_9 (nlt rfl) rfl (HG.rR hH (k := 31) (i := 0) rfl rfl) dX3_layNeighbours_48 ?_
      refine x_iconst C dX3_layNeighbours_51 ?_
      refine x_lload C dX3_layNeighbours_52 rfl ?_
      refine x_aload_n (i := 1) C dX3_layNeighbours_54 rfl rfl ?_
      refine x_getI C fkX_X3_19 (nlt rfl) rfl dX3_layNeighbours_55 ?_
      refine x_gen (fun v5 ev5 => ?_)
      have qv5 : (0 : Int) ≤ v5 ∧ v5 ≤ (6 : Int) := by
        rw [ev5]
        exact hH.rF (k := 7) (i := 0) rfl rfl
      refine x_lshl C dX3_layNeighbours_58 ?_
      refine x_genL (fun l6 el6 => ?_)
      refine x_lload_n (i := 2) C dX3_layNeighbours_59 rfl rfl ?_
      refine x_land C dX3_layNeighbours_60 ?_
      refine x_genL (fun l7 el7 => ?_)
      refine x_last C (nlt rfl) rfl rfl (nle rfl) (by omega) (by omega) dX3_layNeighbours_61 ?_
      refine x_gX (fun Yy8 eYy8 => ?_)
      have hHy8 : HG vX Yy8 := by
        rw [eYy8]
        exact hg_wLA hH (n := 4) (p := ((-9223372036854775808), 9223372036854775807)) (by decide +kernel) (by omega) (l64 _)
      have hFy8 : FR mdLN31 X Yy8 := by
        rw [eYy8]
        exact FR.upL hF (rfl)
      replace eYy8 : Yy8 = upL X 32 0 (l7) := eYy8
      refine x_aload_n (i := 0) C dX3_layNeighbours_62 rfl rfl ?_
      refine x_getRs (r := 32) C fkX_X3_9 (nlt rfl) rfl (HG.rR hHy8 (k := 31) (i := 0) rfl rfl) dX3_layNeighbours_63 ?_
      refine x_iconst C dX3_layNeighbours_66 ?_
      refine x_lload C dX3_layNeighbours_67 rfl ?_
      refine x_lload C dX3_layNeighbours_69 rfl ?_
      refine x_ldc2 C dX3_layNeighbours_71 cnX3_36 ?_
      refine x_lxor C dX3_layNeighbours_74 ?_
      refine x_genL (fun l9 el9 => ?_)
      refine x_land C dX3_layNeighbours_75 ?_
      refine x_genL (fun l10 el10 => ?_)
      refine x_iconst C dX3_layNeighbours_76 ?_
      refine x_lushr C dX3_layNeighbours_77 ?_
      refine x_genL (fun l11 el11 => ?_)
      refine x_last C (nlt rfl) rfl rfl (nle rfl) (by omega) (by omega) dX3_layNeighbours_78 ?_
      refine x_gX (fun Yy12 eYy12 => ?_)
      have hHy12 : HG vX Yy12 := by
        rw [eYy12]
        exact hg_wLA hHy8 (n := 4) (p := ((-9223372036854775808), 9223372036854775807)) (by decide +kernel) (by omega) (l64 _)
      have hFy12 : FR mdLN31 X Yy12 := by
        rw [eYy12]
        exact FR.upL hFy8 (rfl)
      replace eYy12 : Yy12 = upL Yy8 32 1 (l11) := eYy12
      refine x_aload_n (i := 0) C dX3_layNeighbours_79 rfl rfl ?_
      refine x_getRs (r := 32) C fkX_X3_9 (nlt rfl) rfl (HG.rR hHy12 (k := 31) (i := 0) rfl rfl) dX3_layNeighbours_80 ?_
      refine x_iconst C dX3_layNeighbours_83 ?_
      refine x_lload C dX3_layNeighbours_84 rfl ?_
      refine x_aload_n (i := 1) C dX3_layNeighbours_86 rfl rfl ?_
      refine x_getI C fkX_X3_19 (nlt rfl) rfl dX3_layNeighbours_87 ?_
      refine x_gen (fun v13 ev13 => ?_)
      have qv13 : (0 : Int) ≤ v13 ∧ v13 ≤ (6 : Int) := by
        rw [ev13]
        exact hHy12.rF (k := 7) (i := 0) rfl rfl
      refine x_lushr C dX3_layNeighbours_90 ?_
      refine x_genL (fun l14 el14 => ?_)
      refine x_last C (nlt rfl) rfl rfl (nle rfl) (by omega) (by omega) dX3_layNeighbours_91 ?_
      refine x_gX (fun Yy15 eYy15 => ?_)
      have hHy15 : HG vX Yy15 := by
        rw [eYy15]
        exact hg_wLA hHy12 (n := 4) (p := ((-9223372036854775808), 9223372036854775807)) (by decide +kernel) (by omega) (l64 _)
      have hFy15 : FR mdLN31 X Yy15 := by
        rw [eYy15]
        exact FR.upL hFy12 (rfl)
      replace eYy15 : Yy15 = upL Yy12 32 2 (l14) := eYy15
      refine x_aload_n (i := 0) C dX3_layNeighbours_92 rfl rfl ?_
      refine x_getRs (r := 32) C fkX_X3_9 (nlt rfl) rfl (HG.rR hHy15 (k := 31) (i := 0) rfl rfl) dX3_layNeighbours_93 ?_
      refine x_iconst C dX3_layNeighbours_96 ?_
      refine x_lload C dX3_layNeighbours_97 rfl ?_
      refine x_lload C dX3_layNeighbours_99 rfl ?_
      refine x_ldc2 C dX3_layNeighbours_101 cnX3_36 ?_
      refine x_lxor C dX3_layNeighbours_104 ?_
      refine x_genL (fun l16 el16 => ?_)
      refine x_land C dX3_layNeighbours_105 ?_
      refine x_genL (fun l17 el17 => ?_)
      refine x_iconst C dX3_layNeighbours_106 ?_
      refine x_lshl C dX3_layNeighbours_107 ?_
      refine x_genL (fun l18 el18 => ?_)
      refine x_last C (nlt rfl) rfl rfl (nle rfl) (by omega) (by omega) dX3_layNeighbours_108 ?_
      refine x_gX (fun Yy19 eYy19 => ?_)
      have hHy19 : HG vX Yy19 := by
        rw [eYy19]
        exact hg_wLA hHy15 (n := 4) (p := ((-9223372036854775808), 9223372036854775807)) (by decide +kernel) (by omega) (l64 _)
      have hFy19 : FR mdLN31 X Yy19 := by
        rw [eYy19]
        exact FR.upL hFy15 (rfl)
      replace eYy19 : Yy19 = upL Yy15 32 3 (l18) := eYy19
      refine x_aload_n (i := 0) C dX3_layNeighbours_109 rfl rfl ?_
      refine x_aload_n (i := 0) C dX3_layNeighbours_110 rfl rfl ?_
      refine x_getL C fkX_X3_38 (nlt rfl) rfl dX3_layNeighbours_111 ?_
      refine x_genL (fun l20 el20 => ?_)
      refine x_aload_n (i := 1) C dX3_layNeighbours_114 rfl rfl ?_
      refine x_getI C fkX_X3_19 (nlt rfl) rfl dX3_layNeighbours_115 ?_
      refine x_gen (fun v21 ev21 => ?_)
      have qv21 : (0 : Int) ≤ v21 ∧ v21 ≤ (6 : Int) := by
        rw [ev21]
        exact hHy19.rF (k := 7) (i := 0) rfl rfl
      refine x_lshl C dX3_layNeighbours_118 ?_
      refine x_genL (fun l22 el22 => ?_)
      refine x_lload_n (i := 2) C dX3_layNeighbours_119 rfl rfl ?_
      refine x_land C dX3_layNeighbours_120 ?_
      refine x_genL (fun l23 el23 => ?_)
      refine x_aload_n (i := 0) C dX3_layNeighbours_121 rfl rfl ?_
      refine x_getL C fkX_X3_38 (nlt rfl) rfl dX3_layNeighbours_122 ?_
      refine x_genL (fun l24 el24 => ?_)
      refine x_lload C dX3_layNeighbours_125 rfl ?_
      refine x_ldc2 C dX3_layNeighbours_127 cnX3_36 ?_
      refine x_lxor C dX3_layNeighbours_130 ?_
      refine x_genL (fun l25 el25 => ?_)
      refine x_land C dX3_layNeighbours_131 ?_
      refine x_genL (fun l26 el26 => ?_)
      refine x_iconst C dX3_layNeighbours_132 ?_
      refine x_lushr C dX3_layNeighbours_133 ?_
      refine x_genL (fun l27 el27 => ?_)
      refine x_lor C dX3_layNeighbours_134 ?_
      refine x_genL (fun l28 el28 => ?_)
      refine x_aload_n (i := 0) C dX3_layNeighbours_135 rfl rfl ?_
      refine x_getL C fkX_X3_38 (nlt rfl) rfl dX3_layNeighbours_136 ?_
      refine x_genL (fun l29 el29 => ?_)
      refine x_aload_n (i := 1) C dX3_layNeighbours_139 rfl rfl ?_
      refine x_getI C fkX_X3_19 (nlt rfl) rfl dX3_layNeighbours_140 ?_
      refine x_gen (fun v30 ev30 => ?_)
      have qv30 : (0 : Int) ≤ v30 ∧ v30 ≤ (6 : Int) := by
        rw [ev30]
        exact hHy19.rF (k := 7) (i := 0) rfl rfl
      refine x_lushr C dX3_layNeighbours_143 ?_
      refine x_genL (fun l31 el31 => ?_)
      refine x_lor C dX3_layNeighbours_144 ?_
      refine x_genL (fun l32 el32 => ?_)
      refine x_aload_n (i := 0) C dX3_layNeighbours_145 rfl rfl ?_
      refine x_getL C fkX_X3_38 (nlt rfl) rfl dX3_layNeighbours_146 ?_
      refine x_genL (fun l33 el33 => ?_)
      refine x_lload C dX3_layNeighbours_149 rfl ?_
      refine x_ldc2 C dX3_layNeighbours_151 cnX3_36 ?_
      refine x_lxor C dX3_layNeighbours_154 ?_
      refine x_genL (fun l34 el34 => ?_)
      refine x_land C dX3_layNeighbours_155 ?_
      refine x_genL (fun l35 el35 => ?_)
      refine x_iconst C dX3_layNeighbours_156 ?_
      refine x_lshl C dX3_layNeighbours_157 ?_
      refine x_genL (fun l36 el36 => ?_)
      refine x_lor C dX3_layNeighbours_158 ?_
      refine x_genL (fun l37 el37 => ?_)
      refine x_putL C pkX_X3_57 (nlt rfl) rfl dX3_layNeighbours_159 ?_
      refine x_gX (fun Yy38 eYy38 => ?_)
      have hHy38 : HG vX Yy38 := by
        rw [eYy38]
        exact hg_wLF hHy19 (p := ((-9223372036854775808), 9223372036854775807)) rfl (l64 _)
      have hFy38 : FR mdLN31 X Yy38 := by
        rw [eYy38]
        exact FR.upL hFy19 (rfl)
      replace eYy38 : Yy38 = upL Yy19 31 3 (l37) := eYy38
      exact x_vret C hQ dX3_layNeighbours_162 (⟨rfl, hHy38, hFy38, (by (have wv3 : v3 = X.1 7 0 := by rw [ev3]); (have wv5 : v5 = X.1 7 0 := by rw [ev5]); (have wv13 : v13 = X.1 7 0 := by rw [ev13, (hFy12 7 0 rfl).1]); (have wv21 : v21 = X.1 7 0 := by rw [ev21, (hFy19 7 0 rfl).1]); (have wv30 : v30 = X.1 7 0 := by rw [ev30, (hFy19 7 0 rfl).1]); (intro j hj ht); (rw [eYy38, upL_nc (by decide), eYy19, upL_ne (by decide), eYy15, upL_ne (by decide), eYy12, upL_ne (by decide), eYy8, upL_at] at ht); (rw [el7, tb_and, Bool.and_eq_true, el6, tb_shl] at ht); (have h1 := ht.1); (simp only [Bool.and_eq_true, Bool.not_eq_true', decide_eq_false_iff_not, decide_eq_true_eq] at h1); (have e1 : (v5 % 64).toNat = (X.1 7 0).toNat := by omega); (rw [e1] at h1); (exact ⟨by omega, h1.2.2⟩)), (by (have wv3 : v3 = X.1 7 0 := by rw [ev3]); (have wv5 : v5 = X.1 7 0 := by rw [ev5]); (have wv13 : v13 = X.1 7 0 := by rw [ev13, (hFy12 7 0 rfl).1]); (have wv21 : v21 = X.1 7 0 := by rw [ev21, (hFy19 7 0 rfl).1]); (have wv30 : v30 = X.1 7 0 := by rw [ev30, (hFy19 7 0 rfl).1]); (intro j hj ht); (rw [eYy38, upL_nc (by decide), eYy19, upL_ne (by decide), eYy15, upL_ne (by decide), eYy12, upL_at] at ht); (rw [el11, tb_ushr, el10, tb_and, Bool.and_eq_true] at ht); (rw [Nat.add_comm]); (exact ht.1)), (by (have wv3 : v3 = X.1 7 0 := by rw [ev3]); (have wv5 : v5 = X.1 7 0 := by rw [ev5]); (have wv13 : v13 = X.1 7 0 := by rw [ev13, (hFy12 7 0 rfl).1]); (have wv21 : v21 = X.1 7 0 := by rw [ev21, (hFy19 7 0 rfl).1]); (have wv30 : v30 = X.1 7 0 := by rw [ev30, (hFy19 7 0 rfl).1]); (intro j hj ht); (rw [eYy38, upL_nc (by decide), eYy19, upL_ne (by decide), eYy15, upL_at] at ht); (rw [el14, tb_ushr] at ht); (have e1 : (v13 % 64).toNat = (X.1 7 0).toNat := by omega); (rw [e1] at ht); (exact ht)), (by (have wv3 : v3 = X.1 7 0 := by rw [ev3]); (have wv5 : v5 = X.1 7 0 := by rw [ev5]); (have wv13 : v13 = X.1 7 0 := by rw [ev13, (hFy12 7 0 rfl).1]); (have wv21 : v21 = X.1 7 0 := by rw [ev21, (hFy19 7 0 rfl).1]); (have wv30 : v30 = X.1 7 0 := by rw [ev30, (hFy19 7 0 rfl).1]); (intro j hj ht); (rw [eYy38, upL_nc (by decide), eYy19, upL_at] at ht); (rw [el18, tb_shl, el17, tb_and] at ht); (simp only [Bool.and_eq_true, Bool.not_eq_true', decide_eq_false_iff_not, decide_eq_true_eq] at ht); (have h1 := ht.2); (exact ⟨by have := h1.1; have e1 : ((1 : Int) % 64).toNat = 1 := rfl; omega, h1.2.1⟩))⟩)
    · refine x_lload C dX3_layNeighbours_15 rfl ?_
      refine x_iload C dX3_layNeighbours_17 rfl ?_
      refine x_aload_n (i := 1) C dX3_layNeighbours_19 rfl rfl ?_
      refine x_getI C fkX_X3_19 (nlt rfl) rfl dX3_layNeighbours_20 ?_
      refine x_gen (fun v39 ev39 => ?_)
      have qv39 : (0 : Int) ≤ v39 ∧ v39 ≤ (6 : Int) := by
        rw [ev39]
        exact hH.rF (k := 7) (i := 0) rfl rfl
      refine x_imul C dX3_layNeighbours_23 ?_
      refine x_callSN (As := [.int (iI (i * v39))]) C (by exact (xf_bit (f := i * v39))) cnX3_28 rfl rfl (nle rfl) (by exact ⟨nle rfl, nle rfl⟩) dX3_layNeighbours_24 ?_
      rintro _ Xl40 ⟨hxl40, rfl⟩
      rw [hxl40]
      refine Wx_st (st' := [.long ((1 : Int64) <<< ((iI (i * v39)).toInt64 &&& 63)), .long (we)]) rfl ?_
      refine x_genL (fun l40 el40 => ?_)
      refine Wx_st (st' := [.long (l40), .long (we)]) rfl ?_
      refine x_lor C dX3_layNeighbours_27 ?_
      refine x_genL (fun l41 el41 => ?_)
      refine x_lstore (lv' := [(6, .long (l41)), (8, .int (iI (i))), (0, .ref 31), (1, .ref 7), (2, .long (all)), (4, .long (op))]) C dX3_layNeighbours_28 (nlt rfl) rfl ?_
      refine x_iinc (lv' := [(8, .int (iI (i + 1))), (6, .long (l41)), (0, .ref 31), (1, .ref 7), (2, .long (all)), (4, .long (op))]) C dX3_layNeighbours_30 rfl (nlt rfl) rfl ?_
      refine x_goto (tgt := 6) C dX3_layNeighbours_33 (by decide) ?_
      refine Wx_pick [8, 6, 0, 1, 2, 4] ?_
      refine Wx_lv (lv' := [(8, .int (iI (i + 1))), (6, .long (l41)), (0, .ref 31), (1, .ref 7), (2, .long (all)), (4, .long (op))]) rfl ?_
      exact ih _ _ (by omega) (by omega) (by omega)
set_option maxHeartbeats 4000000 in
set_option maxRecDepth 100000 in
theorem xf_layN31_7 {D : va_G} {ad : Nat → Nat} {cA : Nat → ClassId} {X : XT} {all op : Int64} (hH : HG vX X) (hF : FR mdLN31 X X) : MetX (wX D ad cA) yX3_layNeighbours cX3_layNeighbours 10 none 1 20 [.ref 31, .ref 7, .long (all), .long (op)] X (fun r X1 => r = none ∧ HG vX X1 ∧ FR mdLN31 X X1 ∧ (∀ j, j < 64 → tb (X1.2.1 32 0) j = true → (X.1 7 0 ≤ (j : Int) ∧ tb op (j - (X.1 7 0).toNat) = true)) ∧ (∀ j, j < 64 → tb (X1.2.1 32 1) j = true → tb op (j + 1) = true) ∧ (∀ j, j < 64 → tb (X1.2.1 32 2) j = true → tb op ((X.1 7 0).toNat + j) = true) ∧ (∀ j, j < 64 → tb (X1.2.1 32 3) j = true → (1 ≤ (j : Int) ∧ tb op (j - 1) = true))) := by
  refine MetX.mk (own := RX3) (by decide +kernel) rfl (nle rfl) (fun E C hQ => ?_)
  refine Wx_lv (lv' := [(0, .ref 31), (1, .ref 7), (2, .long (all)), (4, .long (op))]) rfl ?_
  refine x_lconst C dX3_layNeighbours_0 ?_
  refine x_eqL (b := 0) rfl ?_
  refine x_lstore (lv' := [(6, .long (0)), (0, .ref 31), (1, .ref 7), (2, .long (all)), (4, .long (op))]) C dX3_layNeighbours_1 (nlt rfl) rfl ?_
  refine x_iconst C dX3_layNeighbours_3 ?_
  refine x_istore (lv' := [(8, .int (iI (0))), (6, .long (0)), (0, .ref 31), (1, .ref 7), (2, .long (all)), (4, .long (op))]) C dX3_layNeighbours_4 (nlt rfl) rfl ?_
  refine Wx_pick [8, 6, 0, 1, 2, 4] ?_
  refine Wx_lv (lv' := [(8, .int (iI (0))), (6, .long (0)), (0, .ref 31), (1, .ref 7), (2, .long (all)), (4, .long (op))]) rfl ?_
  exact xl_layN31_7 hH hF C hQ 7 0 0 (by omega) (by omega) (by omega)
set_option maxHeartbeats 4000000 in
set_option maxRecDepth 100000 in
theorem xl_lay31_7_9 {D : va_G} {ad : Nat → Nat} {cA : Nat → ClassId} {X0 : XT} {all : Int64} {sd mn : Int} (ss : inR sd) (mm : inR mn) {E : ET} (C : CX E (wX D ad cA) cX3_lay 10 RX3 none { frames := 2, cells := 0, slots := 0, locals := 49 }) (hQ : EQ E (wX D ad cA) (fun r X1 => r = none ∧ HG vX X1 ∧ FR (cMd k_X_76) X0 X1 ∧ GOKP 32 33 X1)) : ∀ (n : Nat) (i : Int) (o : Int64) (X : XT), 6 - i < n → 0 ≤ i → i ≤ 6 → m36 o → HG vX X → FR (cMd k_X_76) X0 X → Wx E (wX D ad cA) 10 (PX (wX D ad cA) X) 37 [(9, .int (iI (i))), (7, .long (o)), (0, .ref 31), (1, .ref 7), (2, .ref 9), (3, .int (iI (sd))), (4, .int (iI (mn))), (5, .long (all))] [] := by
  intro n
  induction n with
  | zero => intro i o X hn i0 i1 om hH hF; exfalso; omega
  | succ n ih =>
    intro i o X hn i0 i1 om hH hF
    unfold inR at ss mm
    refine x_iload C dX3_lay_37 rfl ?_
    refine x_aload_n (i := 1) C dX3_lay_39 rfl rfl ?_
    refine x_getI C fkX_X3_41 (nlt rfl) rfl dX3_lay_40 ?_
    refine x_gen (fun v1 ev1 => ?_)
    have qv1 : (0 : Int) ≤ v1 ∧ v1 ≤ (6 : Int) := by
      rw [ev1]
      exact hH.rF (k := 7) (i := 4) rfl rfl
    refine x_icmp_ge (tgt := 113) C dX3_lay_43 (by decide) ⟨by omega, by omega⟩ ⟨by omega, by omega⟩ (fun h2 => ?_) (fun h2 => ?_)
    · refine x_aload_n (i := 0) C dX3_lay_113 rfl rfl ?_
      refine x_aload_n (i := 0) C dX3_lay_114 rfl rfl ?_
      refine x_getL C fkX_X3_38 (nlt rfl) rfl dX3_lay_115 ?_
      refine x_genL (fun l3 el3 => ?_)
      refine x_aload_n (i := 1) C dX3_lay_118 rfl rfl ?_
      refine x_getL C fkX_X3_47 (nlt rfl) rfl dX3_lay_119 ?_
      refine x_genL (fun l4 el4 => ?_)
      refine x_lor C dX3_lay_122 ?_
      refine x_genL (fun l5 el5 => ?_)
      refine x_putL C pkX_X3_50 (nlt rfl) rfl dX3_lay_123 ?_
      refine x_gX (fun Yy6 eYy6 => ?_)
      have hHy6 : HG vX Yy6 := by
        rw [eYy6]
        exact hg_wLF hH (p := ((-9223372036854775808), 9223372036854775807)) rfl (l64 _)
      have hFy6 : FR (cMd k_X_76) X0 Yy6 := by
        rw [eYy6]
        exact FR.upL hF (rfl)
      replace eYy6 : Yy6 = upL X 31 4 (l5) := eYy6
      refine x_aload_n (i := 0) C dX3_lay_126 rfl rfl ?_
      refine x_getRs (r := 33) C fkX_X3_15 (nlt rfl) rfl (HG.rR hHy6 (k := 31) (i := 1) rfl rfl) dX3_lay_127 ?_
      refine x_iconst C dX3_lay_130 ?_
      refine x_aload_n (i := 1) C dX3_lay_131 rfl rfl ?_
      refine x_getI C fkX_X3_19 (nlt rfl) rfl dX3_lay_132 ?_
      refine x_gen (fun v7 ev7 => ?_)
      have qv7 : (0 : Int) ≤ v7 ∧ v7 ≤ (6 : Int) := by
        rw [ev7]
        exact hHy6.rF (k := 7) (i := 0) rfl rfl
      have wv7 : v7 = X0.1 7 0 := by rw [ev7, (hFy6 7 0 rfl).1]
      refine x_ineg C dX3_lay_135 ?_
      refine x_iast C (nlt rfl) rfl rfl (nle rfl) (by omega) (by omega) dX3_lay_136 ?_
      refine x_gX (fun Yy8 eYy8 => ?_)
      have hHy8 : HG vX Yy8 := by
        rw [eYy8]
        exact hg_wA hHy6 (n := 4) (p := ((-6), 6)) (by decide +kernel) (by omega) ⟨by omega, by omega⟩
      have hFy8 : FR (cMd k_X_76) X0 Yy8 := by
        rw [eYy8]
        exact FR.upI hFy6 (rfl)
      replace eYy8 : Yy8 = upI Yy6 33 0 (-v7) := eYy8
      refine x_aload_n (i := 0) C dX3_lay_137 rfl rfl ?_
      refine x_getRs (r := 33) C fkX_X3_15 (nlt rfl) rfl (HG.rR hHy8 (k := 31) (i := 1) rfl rfl) dX3_lay_138 ?_
      refine x_iconst C dX3_lay_141 ?_
      refine x_iconst C dX3_lay_142 ?_
      refine x_iast C (nlt rfl) rfl rfl (nle rfl) (by omega) (by omega) dX3_lay_143 ?_
      refine x_gX (fun Yy9 eYy9 => ?_)
      have hHy9 : HG vX Yy9 := by
        rw [eYy9]
        exact hg_wA hHy8 (n := 4) (p := ((-6), 6)) (by decide +kernel) (by omega) ⟨by omega, by omega⟩
      have hFy9 : FR (cMd k_X_76) X0 Yy9 := by
        rw [eYy9]
        exact FR.upI hFy8 (rfl)
      replace eYy9 : Yy9 = upI Yy8 33 1 (1) := eYy9
      refine x_aload_n (i := 0) C dX3_lay_144 rfl rfl ?_
      refine x_getRs (r := 33) C fkX_X3_15 (nlt rfl) rfl (HG.rR hHy9 (k := 31) (i := 1) rfl rfl) dX3_lay_145 ?_
      refine x_iconst C dX3_lay_148 ?_
      refine x_aload_n (i := 1) C dX3_lay_149 rfl rfl ?_
      refine x_getI C fkX_X3_19 (nlt rfl) rfl dX3_lay_150 ?_
      refine x_gen (fun v10 ev10 => ?_)
      have qv10 : (0 : Int) ≤ v10 ∧ v10 ≤ (6 : Int) := by
        rw [ev10]
        exact hHy9.rF (k := 7) (i := 0) rfl rfl
      have wv10 : v10 = X0.1 7 0 := by rw [ev10, (hFy9 7 0 rfl).1]
      refine x_iast C (nlt rfl) rfl rfl (nle rfl) (by omega) (by omega) dX3_lay_153 ?_
      refine x_gX (fun Yy11 eYy11 => ?_)
      have hHy11 : HG vX Yy11 := by
        rw [eYy11]
        exact hg_wA hHy9 (n := 4) (p := ((-6), 6)) (by decide +kernel) (by omega) ⟨by omega, by omega⟩
      have hFy11 : FR (cMd k_X_76) X0 Yy11 := by
        rw [eYy11]
        exact FR.upI hFy9 (rfl)
      replace eYy11 : Yy11 = upI Yy9 33 2 (v10) := eYy11
      refine x_aload_n (i := 0) C dX3_lay_154 rfl rfl ?_
      refine x_getRs (r := 33) C fkX_X3_15 (nlt rfl) rfl (HG.rR hHy11 (k := 31) (i := 1) rfl rfl) dX3_lay_155 ?_
      refine x_iconst C dX3_lay_158 ?_
      refine x_iconst C dX3_lay_159 ?_
      refine x_iast C (nlt rfl) rfl rfl (nle rfl) (by omega) (by omega) dX3_lay_160 ?_
      refine x_gX (fun Yy12 eYy12 => ?_)
      have hHy12 : HG vX Yy12 := by
        rw [eYy12]
        exact hg_wA hHy11 (n := 4) (p := ((-6), 6)) (by decide +kernel) (by omega) ⟨by omega, by omega⟩
      have hFy12 : FR (cMd k_X_76) X0 Yy12 := by
        rw [eYy12]
        exact FR.upI hFy11 (rfl)
      replace eYy12 : Yy12 = upI Yy11 33 3 ((-1)) := eYy12
      refine x_aload_n (i := 0) C dX3_lay_161 rfl rfl ?_
      refine x_aload_n (i := 1) C dX3_lay_162 rfl rfl ?_
      refine x_lload C dX3_lay_163 rfl ?_
      refine x_lload C dX3_lay_165 rfl ?_
      refine x_callV (As := [.ref 7, .long (all), .long (o)]) C (by exact (xf_layN31_7 (all := all) (op := o) hHy12 FR.rf)) ckX3_53 im_X3_layNeighbours se_X3_layNeighbours (nlt rfl) rfl rfl rfl rfl (nle rfl) (by exact ⟨nle rfl, nle rfl⟩) dX3_lay_167 ?_
      rintro _ Yy13 ⟨rfl, hHy13, hGy13, P0y13, P1y13, P2y13, P3y13⟩
      have hFy13 : FR (cMd k_X_76) X0 Yy13 := FR.tr hFy12 hGy13 (by decide)
      refine Wx_st (st' := []) rfl ?_
      exact x_vret C hQ dX3_lay_170 (⟨rfl, hHy13, hFy13, by (intro s hs j hj ht); (have lt : ∀ i, tb o i = true → i < 36 := fun i hi => by (by_cases q : i < 36); (exact q); (rw [m36_iff.mp om i (by omega)] at hi; cases hi)); (rcases (show s = 0 ∨ s = 1 ∨ s = 2 ∨ s = 3 by omega) with rfl | rfl | rfl | rfl); ((have p := P0y13 j hj ht); (have := lt _ p.2); (rw [(hGy13 33 0 rfl).1, eYy12, upI_ne (by decide), eYy11, upI_ne (by decide), eYy9, upI_ne (by decide), eYy8, upI_at]); (have p1 := p.1); (have wq := (show Yy12.1 7 0 = v10 by rw [(hFy12 7 0 rfl).1, wv10])); (rw [wq] at this p1); (omega)); ((have := lt _ (P1y13 j hj ht)); (rw [(hGy13 33 1 rfl).1, eYy12, upI_ne (by decide), eYy11, upI_ne (by decide), eYy9, upI_at]); (omega)); ((have := lt _ (P2y13 j hj ht)); (rw [(hGy13 33 2 rfl).1, eYy12, upI_ne (by decide), eYy11, upI_at]); (have wq := (show Yy12.1 7 0 = v10 by rw [(hFy12 7 0 rfl).1, wv10])); (rw [wq] at this); (omega)); ((have p := P3y13 j hj ht); (have := lt _ p.2); (rw [(hGy13 33 3 rfl).1, eYy12, upI_at]); (have p1 := p.1); (omega))⟩)
    · refine x_iload C dX3_lay_46 rfl ?_
      refine x_iload C dX3_lay_48 rfl ?_
      refine x_icmp_eq (tgt := 107) C dX3_lay_50 (by decide) ⟨by omega, by omega⟩ ⟨by omega, by omega⟩ (fun h14 => ?_) (fun h14 => ?_)
      · refine x_iinc (lv' := [(9, .int (iI (i + 1))), (7, .long (o)), (0, .ref 31), (1, .ref 7), (2, .ref 9), (3, .int (iI (sd))), (4, .int (iI (mn))), (5, .long (all))]) C dX3_lay_107 rfl (nlt rfl) rfl ?_
        refine x_goto (tgt := 37) C dX3_lay_110 (by decide) ?_
        refine Wx_pick [9, 7, 0, 1, 2, 3, 4, 5] ?_
        refine Wx_lv (lv' := [(9, .int (iI (i + 1))), (7, .long (o)), (0, .ref 31), (1, .ref 7), (2, .ref 9), (3, .int (iI (sd))), (4, .int (iI (mn))), (5, .long (all))]) rfl ?_
        exact ih _ _ _ (by omega) (by omega) (by omega) om hH hF
      · refine x_aload_n (i := 2) C dX3_lay_53 rfl rfl ?_
        refine x_iload C dX3_lay_54 rfl ?_
        refine x_iald C (nlt rfl) rfl rfl (nle rfl) (by omega) (by omega) dX3_lay_56 ?_
        refine x_gen (fun v15 ev15 => ?_)
        have qv15 : ((-2147483648) : Int) ≤ v15 ∧ v15 ≤ (2147483647 : Int) := by
          rw [ev15]
          exact hH.rA (k := 9) (n := 6) (p := ((-2147483648), 2147483647)) (nlt rfl) rfl (by decide +kernel) (by omega)
        refine x_iconst C dX3_lay_57 ?_
        refine x_icmp_eq (tgt := 107) C dX3_lay_58 (by decide) ⟨by omega, by omega⟩ ⟨by omega, by omega⟩ (fun h16 => ?_) (fun h16 => ?_)
        · refine x_iinc (lv' := [(9, .int (iI (i + 1))), (7, .long (o)), (0, .ref 31), (1, .ref 7), (2, .ref 9), (3, .int (iI (sd))), (4, .int (iI (mn))), (5, .long (all))]) C dX3_lay_107 rfl (nlt rfl) rfl ?_
          refine x_goto (tgt := 37) C dX3_lay_110 (by decide) ?_
          refine Wx_pick [9, 7, 0, 1, 2, 3, 4, 5] ?_
          refine Wx_lv (lv' := [(9, .int (iI (i + 1))), (7, .long (o)), (0, .ref 31), (1, .ref 7), (2, .ref 9), (3, .int (iI (sd))), (4, .int (iI (mn))), (5, .long (all))]) rfl ?_
          exact ih _ _ _ (by omega) (by omega) (by omega) om hH hF
        · refine x_aload_n (i := 1) C dX3_lay_61 rfl rfl ?_
          refine x_getRs (r := 8) C fkX_X3_44 (nlt rfl) rfl (HG.rR hH (k := 7) (i := 5) rfl rfl) dX3_lay_62 ?_
          refine x_iload C dX3_lay_65 rfl ?_
          refine x_iald C (nlt rfl) rfl rfl (nle rfl) (by omega) (by omega) dX3_lay_67 ?_
          refine x_gen (fun v17 ev17 => ?_)
          have qv17 : ((-2147483648) : Int) ≤ v17 ∧ v17 ≤ (2147483647 : Int) := by
            rw [ev17]
            exact hH.rA (k := 8) (n := 6) (p := ((-2147483648), 2147483647)) (nlt rfl) rfl (by decide +kernel) (by omega)
          refine x_iload_n (i := 3) C dX3_lay_68 rfl rfl ?_
          refine x_icmp_ne (tgt := 91) C dX3_lay_69 (by decide) ⟨by omega, by omega⟩ ⟨by omega, by omega⟩ (fun h18 => ?_) (fun h18 => ?_)
          · refine x_aload_n (i := 0) C dX3_lay_91 rfl rfl ?_
            refine x_dup C dX3_lay_92 rfl ?_
            refine x_getL C fkX_X3_38 (nlt rfl) rfl dX3_lay_93 ?_
            refine x_genL (fun l19 el19 => ?_)
            refine x_aload_n (i := 2) C dX3_lay_96 rfl rfl ?_
            refine x_iload C dX3_lay_97 rfl ?_
            refine x_iald C (nlt rfl) rfl rfl (nle rfl) (by omega) (by omega) dX3_lay_99 ?_
            refine x_gen (fun v20 ev20 => ?_)
            have qv20 : ((-2147483648) : Int) ≤ v20 ∧ v20 ≤ (2147483647 : Int) := by
              rw [ev20]
              exact hH.rA (k := 9) (n := 6) (p := ((-2147483648), 2147483647)) (nlt rfl) rfl (by decide +kernel) (by omega)
            refine x_callSN (As := [.int (iI (v20))]) C (by exact (xf_bit (f := v20))) cnX3_28 rfl rfl (nle rfl) (by exact ⟨nle rfl, nle rfl⟩) dX3_lay_100 ?_
            rintro _ Xl21 ⟨hxl21, rfl⟩
            rw [hxl21]
            refine Wx_st (st' := [.long ((1 : Int64) <<< ((iI (v20)).toInt64 &&& 63)), .long (l19), .ref 31]) rfl ?_
            refine x_genL (fun l21 el21 => ?_)
            refine Wx_st (st' := [.long (l21), .long (l19), .ref 31]) rfl ?_
            refine x_lor C dX3_lay_103 ?_
            refine x_genL (fun l22 el22 => ?_)
            refine x_putL C pkX_X3_38 (nlt rfl) rfl dX3_lay_104 ?_
            refine x_gX (fun Yy23 eYy23 => ?_)
            have hHy23 : HG vX Yy23 := by
              rw [eYy23]
              exact hg_wLF hH (p := ((-9223372036854775808), 9223372036854775807)) rfl (l64 _)
            have hFy23 : FR (cMd k_X_76) X0 Yy23 := by
              rw [eYy23]
              exact FR.upL hF (rfl)
            replace eYy23 : Yy23 = upL X 31 2 (l22) := eYy23
            refine x_iinc (lv' := [(9, .int (iI (i + 1))), (7, .long (o)), (0, .ref 31), (1, .ref 7), (2, .ref 9), (3, .int (iI (sd))), (4, .int (iI (mn))), (5, .long (all))]) C dX3_lay_107 rfl (nlt rfl) rfl ?_
            refine x_goto (tgt := 37) C dX3_lay_110 (by decide) ?_
            refine Wx_pick [9, 7, 0, 1, 2, 3, 4, 5] ?_
            refine Wx_lv (lv' := [(9, .int (iI (i + 1))), (7, .long (o)), (0, .ref 31), (1, .ref 7), (2, .ref 9), (3, .int (iI (sd))), (4, .int (iI (mn))), (5, .long (all))]) rfl ?_
            exact ih _ _ _ (by omega) (by omega) (by omega) om hHy23 hFy23
          · refine x_lload C dX3_lay_72 rfl ?_
            refine x_aload_n (i := 2) C dX3_lay_74 rfl rfl ?_
            refine x_iload C dX3_lay_75 rfl ?_
            refine x_iald C (nlt rfl) rfl rfl (nle rfl) (by omega) (by omega) dX3_lay_77 ?_
            refine x_gen (fun v24 ev24 => ?_)
            have qv24 : ((-2147483648) : Int) ≤ v24 ∧ v24 ≤ (2147483647 : Int) := by
              rw [ev24]
              exact hH.rA (k := 9) (n := 6) (p := ((-2147483648), 2147483647)) (nlt rfl) rfl (by decide +kernel) (by omega)
            refine x_callSN (As := [.int (iI (v24))]) C (by exact (xf_bit (f := v24))) cnX3_28 rfl rfl (nle rfl) (by exact ⟨nle rfl, nle rfl⟩) dX3_lay_78 ?_
            rintro _ Xl25 ⟨hxl25, rfl⟩
            rw [hxl25]
            refine Wx_st (st' := [.long ((1 : Int64) <<< ((iI (v24)).toInt64 &&& 63)), .long (o)]) rfl ?_
            refine x_genL (fun l25 el25 => ?_)
            refine Wx_st (st' := [.long (l25), .long (o)]) rfl ?_
            refine x_ldc2 C dX3_lay_81 cnX3_36 ?_
            refine x_lxor C dX3_lay_84 ?_
            refine x_genL (fun l26 el26 => ?_)
            refine x_land C dX3_lay_85 ?_
            refine x_genL (fun l27 el27 => ?_)
            refine x_lstore (lv' := [(7, .long (l27)), (9, .int (iI (i))), (0, .ref 31), (1, .ref 7), (2, .ref 9), (3, .int (iI (sd))), (4, .int (iI (mn))), (5, .long (all))]) C dX3_lay_86 (nlt rfl) rfl ?_
            refine x_goto (tgt := 107) C dX3_lay_88 (by decide) ?_
            refine x_iinc (lv' := [(9, .int (iI (i + 1))), (7, .long (l27)), (0, .ref 31), (1, .ref 7), (2, .ref 9), (3, .int (iI (sd))), (4, .int (iI (mn))), (5, .long (all))]) C dX3_lay_107 rfl (nlt rfl) rfl ?_
            refine x_goto (tgt := 37) C dX3_lay_110 (by decide) ?_
            refine Wx_pick [9, 7, 0, 1, 2, 3, 4, 5] ?_
            refine Wx_lv (lv' := [(9, .int (iI (i + 1))), (7, .long (l27)), (0, .ref 31), (1, .ref 7), (2, .ref 9), (3, .int (iI (sd))), (4, .int (iI (mn))), (5, .long (all))]) rfl ?_
            exact ih _ _ _ (by omega) (by omega) (by omega) (by rw [el27]; exact m36_and om) hH hF
set_option maxHeartbeats 4000000 in
set_option maxRecDepth 100000 in
theorem xf_lay31_7_9 {D : va_G} {ad : Nat → Nat} {cA : Nat → ClassId} {X0 : XT} {sd mn : Int} (ss : inR sd) (mm : inR mn) (hH : HG vX X0) (hF : FR (cMd k_X_76) X0 X0) : MetX (wX D ad cA) yX3_lay cX3_lay 10 none 2 49 [.ref 31, .ref 7, .ref 9, .int (iI (sd)), .int (iI (mn))] X0 (fun r X1 => r = none ∧ HG vX X1 ∧ FR (cMd k_X_76) X0 X1 ∧ GOKP 32 33 X1) := by
  have ss' := ss
  have mm' := mm
  unfold inR at ss' mm'
  refine MetX.mk (own := RX3) (by decide +kernel) rfl (nle rfl) (fun E C hQ => ?_)
  refine Wx_lv (lv' := [(0, .ref 31), (1, .ref 7), (2, .ref 9), (3, .int (iI (sd))), (4, .int (iI (mn)))]) rfl ?_
  refine x_aload_n (i := 1) C dX3_lay_0 rfl rfl ?_
  refine x_getI C fkX_X3_19 (nlt rfl) rfl dX3_lay_1 ?_
  refine x_gen (fun v1 ev1 => ?_)
  have qv1 : (0 : Int) ≤ v1 ∧ v1 ≤ (6 : Int) := by
    rw [ev1]
    exact hH.rF (k := 7) (i := 0) rfl rfl
  refine x_aload_n (i := 1) C dX3_lay_4 rfl rfl ?_
  refine x_getI C fkX_X3_25 (nlt rfl) rfl dX3_lay_5 ?_
  refine x_gen (fun v2 ev2 => ?_)
  have qv2 : (0 : Int) ≤ v2 ∧ v2 ≤ (6 : Int) := by
    rw [ev2]
    exact hH.rF (k := 7) (i := 1) rfl rfl
  refine x_imul C dX3_lay_8 ?_
  refine x_callSN (As := [.int (iI (v1 * v2))]) C (by exact (xf_bit (f := v1 * v2))) cnX3_28 rfl rfl (nle rfl) (by exact ⟨nle rfl, nle rfl⟩) dX3_lay_9 ?_
  rintro _ Xl3 ⟨hxl3, rfl⟩
  rw [hxl3]
  refine Wx_st (st' := [.long ((1 : Int64) <<< ((iI (v1 * v2)).toInt64 &&& 63))]) rfl ?_
  refine x_genL (fun l3 el3 => ?_)
  refine Wx_st (st' := [.long (l3)]) rfl ?_
  refine x_lconst C dX3_lay_12 ?_
  refine x_eqL (b := 1) rfl ?_
  refine x_lsub C dX3_lay_13 ?_
  refine x_genL (fun l4 el4 => ?_)
  refine x_lstore (lv' := [(5, .long (l4)), (0, .ref 31), (1, .ref 7), (2, .ref 9), (3, .int (iI (sd))), (4, .int (iI (mn)))]) C dX3_lay_14 (nlt rfl) rfl ?_
  refine x_lload C dX3_lay_16 rfl ?_
  refine x_aload_n (i := 1) C dX3_lay_18 rfl rfl ?_
  refine x_getL C fkX_X3_32 (nlt rfl) rfl dX3_lay_19 ?_
  refine x_genL (fun l5 el5 => ?_)
  refine x_ldc2 C dX3_lay_22 cnX3_36 ?_
  refine x_lxor C dX3_lay_25 ?_
  refine x_genL (fun l6 el6 => ?_)
  refine x_land C dX3_lay_26 ?_
  refine x_genL (fun l7 el7 => ?_)
  refine x_lstore (lv' := [(7, .long (l7)), (5, .long (l4)), (0, .ref 31), (1, .ref 7), (2, .ref 9), (3, .int (iI (sd))), (4, .int (iI (mn)))]) C dX3_lay_27 (nlt rfl) rfl ?_
  refine x_aload_n (i := 0) C dX3_lay_29 rfl rfl ?_
  refine x_lconst C dX3_lay_30 ?_
  refine x_eqL (b := 0) rfl ?_
  refine x_putL C pkX_X3_38 (nlt rfl) rfl dX3_lay_31 ?_
  refine x_gX (fun Yy8 eYy8 => ?_)
  have hHy8 : HG vX Yy8 := by
    rw [eYy8]
    exact hg_wLF hH (p := ((-9223372036854775808), 9223372036854775807)) rfl (l64 _)
  have hFy8 : FR (cMd k_X_76) X0 Yy8 := by
    rw [eYy8]
    exact FR.upL hF (rfl)
  replace eYy8 : Yy8 = upL X0 31 2 (0) := eYy8
  refine x_iconst C dX3_lay_34 ?_
  refine x_istore (lv' := [(9, .int (iI (0))), (7, .long (l7)), (5, .long (l4)), (0, .ref 31), (1, .ref 7), (2, .ref 9), (3, .int (iI (sd))), (4, .int (iI (mn)))]) C dX3_lay_35 (nlt rfl) rfl ?_
  refine Wx_pick [9, 7, 0, 1, 2, 3, 4, 5] ?_
  refine Wx_lv (lv' := [(9, .int (iI (0))), (7, .long (l7)), (0, .ref 31), (1, .ref 7), (2, .ref 9), (3, .int (iI (sd))), (4, .int (iI (mn))), (5, .long (l4))]) rfl ?_
  exact xl_lay31_7_9 ss mm C hQ 7 0 _ _ (by omega) (by omega) (by omega) (by rw [el7]; exact m36_and (by rw [el4, el3]; exact m36_all (wh_36 (by omega) (by omega) (by omega) (by omega)))) hHy8 hFy8
set_option maxRecDepth 10000 in
theorem t_X_76 {D : va_G} {ad : Nat → Nat} {cA : Nat → ClassId} : CTR mtX vX gX (wX D ad cA) k_X_76 := by
  intro g X hpre
  obtain ⟨h00, hei, hel, hdl, hH, hE⟩ := hpre
  have h0 : (0 : Int) ≤ g.1 0 ∧ g.1 0 ≤ (0 : Int) := hei 0 _ rfl
  have h1 : ((-2147483648) : Int) ≤ g.1 1 ∧ g.1 1 ≤ (2147483647 : Int) := hei 1 _ rfl
  have h2 : ((-2147483648) : Int) ≤ g.1 2 ∧ g.1 2 ≤ (2147483647 : Int) := hei 2 _ rfl
  refine MetX.imp (fun r X1 hp => ?_) (xf_lay31_7_9 (X0 := X) (sd := g.1 1 + 0) (mn := g.1 2 + 0) ⟨by omega, by omega⟩ ⟨by omega, by omega⟩ hH FR.rf)
  obtain ⟨rfl, hH1, hF1, hG1⟩ := hp
  have e1 := gokX_1 hG1
  exact (altM_mk 0 [1] rfl (ei_cons ⟨by show (0 : Int) ≤ g.1 0; omega, by show g.1 0 ≤ (0 : Int); omega⟩ (ei_cons ⟨by show ((-2147483648) : Int) ≤ g.1 1; omega, by show g.1 1 ≤ (2147483647 : Int); omega⟩ (ei_cons ⟨by show ((-2147483648) : Int) ≤ g.1 2; omega, by show g.1 2 ≤ (2147483647 : Int); omega⟩ (ei_cons ⟨by show (1 : Int) ≤ 1; omega, by show 1 ≤ (1 : Int); omega⟩ ei_nil)))) el_nil (by rfl) (dl_cons (gh_mk rfl (by show gokX 32 33 X1 = (1 : Int) + 0; omega)) dl_nil) gd_nil hH1 (wdX.2.1 X X1 (fun k i hp => hF1 k i (nprX (md := cMd k_X_76) (by decide +kernel) hp)) hE) hF1)
set_option maxHeartbeats 4000000 in
set_option maxRecDepth 100000 in
theorem xl_lay45_7_43 {D : va_G} {ad : Nat → Nat} {cA : Nat → ClassId} {X0 : XT} {all : Int64} {sd mn : Int} (ss : inR sd) (mm : inR mn) {E : ET} (C : CX E (wX D ad cA) cX3_lay 10 RX3 none { frames := 2, cells := 0, slots := 0, locals := 49 }) (hQ : EQ E (wX D ad cA) (fun r X1 => r = none ∧ HG vX X1 ∧ FR (cMd k_X_95) X0 X1 ∧ GOKP 46 47 X1)) : ∀ (n : Nat) (i : Int) (o : Int64) (X : XT), 6 - i < n → 0 ≤ i → i ≤ 6 → m36 o → HG vX X → FR (cMd k_X_95) X0 X → Wx E (wX D ad cA) 10 (PX (wX D ad cA) X) 37 [(9, .int (iI (i))), (7, .long (o)), (0, .ref 45), (1, .ref 7), (2, .ref 43), (3, .int (iI (sd))), (4, .int (iI (mn))), (5, .long (all))] [] := by
  intro n
  induction n with
  | zero => intro i o X hn i0 i1 om hH hF; exfalso; omega
  | succ n ih =>
    intro i o X hn i0 i1 om hH hF
    unfold inR at ss mm
    refine x_iload C dX3_lay_37 rfl ?_
    refine x_aload_n (i := 1) C dX3_lay_39 rfl rfl ?_
    refine x_getI C fkX_X3_41 (nlt rfl) rfl dX3_lay_40 ?_
    refine x_gen (fun v1 ev1 => ?_)
    have qv1 : (0 : Int) ≤ v1 ∧ v1 ≤ (6 : Int) := by
      rw [ev1]
      exact hH.rF (k := 7) (i := 4) rfl rfl
    refine x_icmp_ge (tgt := 113) C dX3_lay_43 (by decide) ⟨by omega, by omega⟩ ⟨by omega, by omega⟩ (fun h2 => ?_) (fun h2 => ?_)
    · refine x_aload_n (i := 0) C dX3_lay_113 rfl rfl ?_
      refine x_aload_n (i := 0) C dX3_lay_114 rfl rfl ?_
      refine x_getL C fkX_X3_38 (nlt rfl) rfl dX3_lay_115 ?_
      refine x_genL (fun l3 el3 => ?_)
      refine x_aload_n (i := 1) C dX3_lay_118 rfl rfl ?_
      refine x_getL C fkX_X3_47 (nlt rfl) rfl dX3_lay_119 ?_
      refine x_genL (fun l4 el4 => ?_)
      refine x_lor C dX3_lay_122 ?_
      refine x_genL (fun l5 el5 => ?_)
      refine x_putL C pkX_X3_50 (nlt rfl) rfl dX3_lay_123 ?_
      refine x_gX (fun Yy6 eYy6 => ?_)
      have hHy6 : HG vX Yy6 := by
        rw [eYy6]
        exact hg_wLF hH (p := ((-9223372036854775808), 9223372036854775807)) rfl (l64 _)
      have hFy6 : FR (cMd k_X_95) X0 Yy6 := by
        rw [eYy6]
        exact FR.upL hF (rfl)
      replace eYy6 : Yy6 = upL X 45 4 (l5) := eYy6
      refine x_aload_n (i := 0) C dX3_lay_126 rfl rfl ?_
      refine x_getRs (r := 47) C fkX_X3_15 (nlt rfl) rfl (HG.rR hHy6 (k := 45) (i := 1) rfl rfl) dX3_lay_127 ?_
      refine x_iconst C dX3_lay_130 ?_
      refine x_aload_n (i := 1) C dX3_lay_131 rfl rfl ?_
      refine x_getI C fkX_X3_19 (nlt rfl) rfl dX3_lay_132 ?_
      refine x_gen (fun v7 ev7 => ?_)
      have qv7 : (0 : Int) ≤ v7 ∧ v7 ≤ (6 : Int) := by
        rw [ev7]
        exact hHy6.rF (k := 7) (i := 0) rfl rfl
      have wv7 : v7 = X0.1 7 0 := by rw [ev7, (hFy6 7 0 rfl).1]
      refine x_ineg C dX3_lay_135 ?_
      refine x_iast C (nlt rfl) rfl rfl (nle rfl) (by omega) (by omega) dX3_lay_136 ?_
      refine x_gX (fun Yy8 eYy8 => ?_)
      have hHy8 : HG vX Yy8 := by
        rw [eYy8]
        exact hg_wA hHy6 (n := 4) (p := ((-6), 6)) (by decide +kernel) (by omega) ⟨by omega, by omega⟩
      have hFy8 : FR (cMd k_X_95) X0 Yy8 := by
        rw [eYy8]
        exact FR.upI hFy6 (rfl)
      replace eYy8 : Yy8 = upI Yy6 47 0 (-v7) := eYy8
      refine x_aload_n (i := 0) C dX3_lay_137 rfl rfl ?_
      refine x_getRs (r := 47) C fkX_X3_15 (nlt rfl) rfl (HG.rR hHy8 (k := 45) (i := 1) rfl rfl) dX3_lay_138 ?_
      refine x_iconst C dX3_lay_141 ?_
      refine x_iconst C dX3_lay_142 ?_
      refine x_iast C (nlt rfl) rfl rfl (nle rfl) (by omega) (by omega) dX3_lay_143 ?_
      refine x_gX (fun Yy9 eYy9 => ?_)
      have hHy9 : HG vX Yy9 := by
        rw [eYy9]
        exact hg_wA hHy8 (n := 4) (p := ((-6), 6)) (by decide +kernel) (by omega) ⟨by omega, by omega⟩
      have hFy9 : FR (cMd k_X_95) X0 Yy9 := by
        rw [eYy9]
        exact FR.upI hFy8 (rfl)
      replace eYy9 : Yy9 = upI Yy8 47 1 (1) := eYy9
      refine x_aload_n (i := 0) C dX3_lay_144 rfl rfl ?_
      refine x_getRs (r := 47) C fkX_X3_15 (nlt rfl) rfl (HG.rR hHy9 (k := 45) (i := 1) rfl rfl) dX3_lay_145 ?_
      refine x_iconst C dX3_lay_148 ?_
      refine x_aload_n (i := 1) C dX3_lay_149 rfl rfl ?_
      refine x_getI C fkX_X3_19 (nlt rfl) rfl dX3_lay_150 ?_
      refine x_gen (fun v10 ev10 => ?_)
      have qv10 : (0 : Int) ≤ v10 ∧ v10 ≤ (6 : Int) := by
        rw [ev10]
        exact hHy9.rF (k := 7) (i := 0) rfl rfl
      have wv10 : v10 = X0.1 7 0 := by rw [ev10, (hFy9 7 0 rfl).1]
      refine x_iast C (nlt rfl) rfl rfl (nle rfl) (by omega) (by omega) dX3_lay_153 ?_
      refine x_gX (fun Yy11 eYy11 => ?_)
      have hHy11 : HG vX Yy11 := by
        rw [eYy11]
        exact hg_wA hHy9 (n := 4) (p := ((-6), 6)) (by decide +kernel) (by omega) ⟨by omega, by omega⟩
      have hFy11 : FR (cMd k_X_95) X0 Yy11 := by
        rw [eYy11]
        exact FR.upI hFy9 (rfl)
      replace eYy11 : Yy11 = upI Yy9 47 2 (v10) := eYy11
      refine x_aload_n (i := 0) C dX3_lay_154 rfl rfl ?_
      refine x_getRs (r := 47) C fkX_X3_15 (nlt rfl) rfl (HG.rR hHy11 (k := 45) (i := 1) rfl rfl) dX3_lay_155 ?_
      refine x_iconst C dX3_lay_158 ?_
      refine x_iconst C dX3_lay_159 ?_
      refine x_iast C (nlt rfl) rfl rfl (nle rfl) (by omega) (by omega) dX3_lay_160 ?_
      refine x_gX (fun Yy12 eYy12 => ?_)
      have hHy12 : HG vX Yy12 := by
        rw [eYy12]
        exact hg_wA hHy11 (n := 4) (p := ((-6), 6)) (by decide +kernel) (by omega) ⟨by omega, by omega⟩
      have hFy12 : FR (cMd k_X_95) X0 Yy12 := by
        rw [eYy12]
        exact FR.upI hFy11 (rfl)
      replace eYy12 : Yy12 = upI Yy11 47 3 ((-1)) := eYy12
      refine x_aload_n (i := 0) C dX3_lay_161 rfl rfl ?_
      refine x_aload_n (i := 1) C dX3_lay_162 rfl rfl ?_
      refine x_lload C dX3_lay_163 rfl ?_
      refine x_lload C dX3_lay_165 rfl ?_
      refine x_callV (As := [.ref 7, .long (all), .long (o)]) C (by exact (xf_layN45_7 (all := all) (op := o) hHy12 FR.rf)) ckX3_53 im_X3_layNeighbours se_X3_layNeighbours (nlt rfl) rfl rfl rfl rfl (nle rfl) (by exact ⟨nle rfl, nle rfl⟩) dX3_lay_167 ?_
      rintro _ Yy13 ⟨rfl, hHy13, hGy13, P0y13, P1y13, P2y13, P3y13⟩
      have hFy13 : FR (cMd k_X_95) X0 Yy13 := FR.tr hFy12 hGy13 (by decide)
      refine Wx_st (st' := []) rfl ?_
      exact x_vret C hQ dX3_lay_170 (⟨rfl, hHy13, hFy13, by (intro s hs j hj ht); (have lt : ∀ i, tb o i = true → i < 36 := fun i hi => by (by_cases q : i < 36); (exact q); (rw [m36_iff.mp om i (by omega)] at hi; cases hi)); (rcases (show s = 0 ∨ s = 1 ∨ s = 2 ∨ s = 3 by omega) with rfl | rfl | rfl | rfl); ((have p := P0y13 j hj ht); (have := lt _ p.2); (rw [(hGy13 47 0 rfl).1, eYy12, upI_ne (by decide), eYy11, upI_ne (by decide), eYy9, upI_ne (by decide), eYy8, upI_at]); (have p1 := p.1); (have wq := (show Yy12.1 7 0 = v10 by rw [(hFy12 7 0 rfl).1, wv10])); (rw [wq] at this p1); (omega)); ((have := lt _ (P1y13 j hj ht)); (rw [(hGy13 47 1 rfl).1, eYy12, upI_ne (by decide), eYy11, upI_ne (by decide), eYy9, upI_at]); (omega)); ((have := lt _ (P2y13 j hj ht)); (rw [(hGy13 47 2 rfl).1, eYy12, upI_ne (by decide), eYy11, upI_at]); (have wq := (show Yy12.1 7 0 = v10 by rw [(hFy12 7 0 rfl).1, wv10])); (rw [wq] at this); (omega)); ((have p := P3y13 j hj ht); (have := lt _ p.2); (rw [(hGy13 47 3 rfl).1, eYy12, upI_at]); (have p1 := p.1); (omega))⟩)
    · refine x_iload C dX3_lay_46 rfl ?_
      refine x_iload C dX3_lay_48 rfl ?_
      refine x_icmp_eq (tgt := 107) C dX3_lay_50 (by decide) ⟨by omega, by omega⟩ ⟨by omega, by omega⟩ (fun h14 => ?_) (fun h14 => ?_)
      · refine x_iinc (lv' := [(9, .int (iI (i + 1))), (7, .long (o)), (0, .ref 45), (1, .ref 7), (2, .ref 43), (3, .int (iI (sd))), (4, .int (iI (mn))), (5, .long (all))]) C dX3_lay_107 rfl (nlt rfl) rfl ?_
        refine x_goto (tgt := 37) C dX3_lay_110 (by decide) ?_
        refine Wx_pick [9, 7, 0, 1, 2, 3, 4, 5] ?_
        refine Wx_lv (lv' := [(9, .int (iI (i + 1))), (7, .long (o)), (0, .ref 45), (1, .ref 7), (2, .ref 43), (3, .int (iI (sd))), (4, .int (iI (mn))), (5, .long (all))]) rfl ?_
        exact ih _ _ _ (by omega) (by omega) (by omega) om hH hF
      · refine x_aload_n (i := 2) C dX3_lay_53 rfl rfl ?_
        refine x_iload C dX3_lay_54 rfl ?_
        refine x_iald C (nlt rfl) rfl rfl (nle rfl) (by omega) (by omega) dX3_lay_56 ?_
        refine x_gen (fun v15 ev15 => ?_)
        have qv15 : ((-2147483648) : Int) ≤ v15 ∧ v15 ≤ (2147483647 : Int) := by
          rw [ev15]
          exact hH.rA (k := 43) (n := 6) (p := ((-2147483648), 2147483647)) (nlt rfl) rfl (by decide +kernel) (by omega)
        refine x_iconst C dX3_lay_57 ?_
        refine x_icmp_eq (tgt := 107) C dX3_lay_58 (by decide) ⟨by omega, by omega⟩ ⟨by omega, by omega⟩ (fun h16 => ?_) (fun h16 => ?_)
        · refine x_iinc (lv' := [(9, .int (iI (i + 1))), (7, .long (o)), (0, .ref 45), (1, .ref 7), (2, .ref 43), (3, .int (iI (sd))), (4, .int (iI (mn))), (5, .long (all))]) C dX3_lay_107 rfl (nlt rfl) rfl ?_
          refine x_goto (tgt := 37) C dX3_lay_110 (by decide) ?_
          refine Wx_pick [9, 7, 0, 1, 2, 3, 4, 5] ?_
          refine Wx_lv (lv' := [(9, .int (iI (i + 1))), (7, .long (o)), (0, .ref 45), (1, .ref 7), (2, .ref 43), (3, .int (iI (sd))), (4, .int (iI (mn))), (5, .long (all))]) rfl ?_
          exact ih _ _ _ (by omega) (by omega) (by omega) om hH hF
        · refine x_aload_n (i := 1) C dX3_lay_61 rfl rfl ?_
          refine x_getRs (r := 8) C fkX_X3_44 (nlt rfl) rfl (HG.rR hH (k := 7) (i := 5) rfl rfl) dX3_lay_62 ?_
          refine x_iload C dX3_lay_65 rfl ?_
          refine x_iald C (nlt rfl) rfl rfl (nle rfl) (by omega) (by omega) dX3_lay_67 ?_
          refine x_gen (fun v17 ev17 => ?_)
          have qv17 : ((-2147483648) : Int) ≤ v17 ∧ v17 ≤ (2147483647 : Int) := by
            rw [ev17]
            exact hH.rA (k := 8) (n := 6) (p := ((-2147483648), 2147483647)) (nlt rfl) rfl (by decide +kernel) (by omega)
          refine x_iload_n (i := 3) C dX3_lay_68 rfl rfl ?_
          refine x_icmp_ne (tgt := 91) C dX3_lay_69 (by decide) ⟨by omega, by omega⟩ ⟨by omega, by omega⟩ (fun h18 => ?_) (fun h18 => ?_)
          · refine x_aload_n (i := 0) C dX3_lay_91 rfl rfl ?_
            refine x_dup C dX3_lay_92 rfl ?_
            refine x_getL C fkX_X3_38 (nlt rfl) rfl dX3_lay_93 ?_
            refine x_genL (fun l19 el19 => ?_)
            refine x_aload_n (i := 2) C dX3_lay_96 rfl rfl ?_
            refine x_iload C dX3_lay_97 rfl ?_
            refine x_iald C (nlt rfl) rfl rfl (nle rfl) (by omega) (by omega) dX3_lay_99 ?_
            refine x_gen (fun v20 ev20 => ?_)
            have qv20 : ((-2147483648) : Int) ≤ v20 ∧ v20 ≤ (2147483647 : Int) := by
              rw [ev20]
              exact hH.rA (k := 43) (n := 6) (p := ((-2147483648), 2147483647)) (nlt rfl) rfl (by decide +kernel) (by omega)
            refine x_callSN (As := [.int (iI (v20))]) C (by exact (xf_bit (f := v20))) cnX3_28 rfl rfl (nle rfl) (by exact ⟨nle rfl, nle rfl⟩) dX3_lay_100 ?_
            rintro _ Xl21 ⟨hxl21, rfl⟩
            rw [hxl21]
            refine Wx_st (st' := [.long ((1 : Int64) <<< ((iI (v20)).toInt64 &&& 63)), .long (l19), .ref 45]) rfl ?_
            refine x_genL (fun l21 el21 => ?_)
            refine Wx_st (st' := [.long (l21), .long (l19), .ref 45]) rfl ?_
            refine x_lor C dX3_lay_103 ?_
            refine x_genL (fun l22 el22 => ?_)
            refine x_putL C pkX_X3_38 (nlt rfl) rfl dX3_lay_104 ?_
            refine x_gX (fun Yy23 eYy23 => ?_)
            have hHy23 : HG vX Yy23 := by
              rw [eYy23]
              exact hg_wLF hH (p := ((-9223372036854775808), 9223372036854775807)) rfl (l64 _)
            have hFy23 : FR (cMd k_X_95) X0 Yy23 := by
              rw [eYy23]
              exact FR.upL hF (rfl)
            replace eYy23 : Yy23 = upL X 45 2 (l22) := eYy23
            refine x_iinc (lv' := [(9, .int (iI (i + 1))), (7, .long (o)), (0, .ref 45), (1, .ref 7), (2, .ref 43), (3, .int (iI (sd))), (4, .int (iI (mn))), (5, .long (all))]) C dX3_lay_107 rfl (nlt rfl) rfl ?_
            refine x_goto (tgt := 37) C dX3_lay_110 (by decide) ?_
            refine Wx_pick [9, 7, 0, 1, 2, 3, 4, 5] ?_
            refine Wx_lv (lv' := [(9, .int (iI (i + 1))), (7, .long (o)), (0, .ref 45), (1, .ref 7), (2, .ref 43), (3, .int (iI (sd))), (4, .int (iI (mn))), (5, .long (all))]) rfl ?_
            exact ih _ _ _ (by omega) (by omega) (by omega) om hHy23 hFy23
          · refine x_lload C dX3_lay_72 rfl ?_
            refine x_aload_n (i := 2) C dX3_lay_74 rfl rfl ?_
            refine x_iload C dX3_lay_75 rfl ?_
            refine x_iald C (nlt rfl) rfl rfl (nle rfl) (by omega) (by omega) dX3_lay_77 ?_
            refine x_gen (fun v24 ev24 => ?_)
            have qv24 : ((-2147483648) : Int) ≤ v24 ∧ v24 ≤ (2147483647 : Int) := by
              rw [ev24]
              exact hH.rA (k := 43) (n := 6) (p := ((-2147483648), 2147483647)) (nlt rfl) rfl (by decide +kernel) (by omega)
            refine x_callSN (As := [.int (iI (v24))]) C (by exact (xf_bit (f := v24))) cnX3_28 rfl rfl (nle rfl) (by exact ⟨nle rfl, nle rfl⟩) dX3_lay_78 ?_
            rintro _ Xl25 ⟨hxl25, rfl⟩
            rw [hxl25]
            refine Wx_st (st' := [.long ((1 : Int64) <<< ((iI (v24)).toInt64 &&& 63)), .long (o)]) rfl ?_
            refine x_genL (fun l25 el25 => ?_)
            refine Wx_st (st' := [.long (l25), .long (o)]) rfl ?_
            refine x_ldc2 C dX3_lay_81 cnX3_36 ?_
            refine x_lxor C dX3_lay_84 ?_
            refine x_genL (fun l26 el26 => ?_)
            refine x_land C dX3_lay_85 ?_
            refine x_genL (fun l27 el27 => ?_)
            refine x_lstore (lv' := [(7, .long (l27)), (9, .int (iI (i))), (0, .ref 45), (1, .ref 7), (2, .ref 43), (3, .int (iI (sd))), (4, .int (iI (mn))), (5, .long (all))]) C dX3_lay_86 (nlt rfl) rfl ?_
            refine x_goto (tgt := 107) C dX3_lay_88 (by decide) ?_
            refine x_iinc (lv' := [(9, .int (iI (i + 1))), (7, .long (l27)), (0, .ref 45), (1, .ref 7), (2, .ref 43), (3, .int (iI (sd))), (4, .int (iI (mn))), (5, .long (all))]) C dX3_lay_107 rfl (nlt rfl) rfl ?_
            refine x_goto (tgt := 37) C dX3_lay_110 (by decide) ?_
            refine Wx_pick [9, 7, 0, 1, 2, 3, 4, 5] ?_
            refine Wx_lv (lv' := [(9, .int (iI (i + 1))), (7, .long (l27)), (0, .ref 45), (1, .ref 7), (2, .ref 43), (3, .int (iI (sd))), (4, .int (iI (mn))), (5, .long (all))]) rfl ?_
            exact ih _ _ _ (by omega) (by omega) (by omega) (by rw [el27]; exact m36_and om) hH hF
set_option maxHeartbeats 4000000 in
set_option maxRecDepth 100000 in
theorem xf_lay45_7_43 {D : va_G} {ad : Nat → Nat} {cA : Nat → ClassId} {X0 : XT} {sd mn : Int} (ss : inR sd) (mm : inR mn) (hH : HG vX X0) (hF : FR (cMd k_X_95) X0 X0) : MetX (wX D ad cA) yX3_lay cX3_lay 10 none 2 49 [.ref 45, .ref 7, .ref 43, .int (iI (sd)), .int (iI (mn))] X0 (fun r X1 => r = none ∧ HG vX X1 ∧ FR (cMd k_X_95) X0 X1 ∧ GOKP 46 47 X1) := by
  have ss' := ss
  have mm' := mm
  unfold inR at ss' mm'
  refine MetX.mk (own := RX3) (by decide +kernel) rfl (nle rfl) (fun E C hQ => ?_)
  refine Wx_lv (lv' := [(0, .ref 45), (1, .ref 7), (2, .ref 43), (3, .int (iI (sd))), (4, .int (iI (mn)))]) rfl ?_
  refine x_aload_n (i := 1) C dX3_lay_0 rfl rfl ?_
  refine x_getI C fkX_X3_19 (nlt rfl) rfl dX3_lay_1 ?_
  refine x_gen (fun v1 ev1 => ?_)
  have qv1 : (0 : Int) ≤ v1 ∧ v1 ≤ (6 : Int) := by
    rw [ev1]
    exact hH.rF (k := 7) (i := 0) rfl rfl
  refine x_aload_n (i := 1) C dX3_lay_4 rfl rfl ?_
  refine x_getI C fkX_X3_25 (nlt rfl) rfl dX3_lay_5 ?_
  refine x_gen (fun v2 ev2 => ?_)
  have qv2 : (0 : Int) ≤ v2 ∧ v2 ≤ (6 : Int) := by
    rw [ev2]
    exact hH.rF (k := 7) (i := 1) rfl rfl
  refine x_imul C dX3_lay_8 ?_
  refine x_callSN (As := [.int (iI (v1 * v2))]) C (by exact (xf_bit (f := v1 * v2))) cnX3_28 rfl rfl (nle rfl) (by exact ⟨nle rfl, nle rfl⟩) dX3_lay_9 ?_
  rintro _ Xl3 ⟨hxl3, rfl⟩
  rw [hxl3]
  refine Wx_st (st' := [.long ((1 : Int64) <<< ((iI (v1 * v2)).toInt64 &&& 63))]) rfl ?_
  refine x_genL (fun l3 el3 => ?_)
  refine Wx_st (st' := [.long (l3)]) rfl ?_
  refine x_lconst C dX3_lay_12 ?_
  refine x_eqL (b := 1) rfl ?_
  refine x_lsub C dX3_lay_13 ?_
  refine x_genL (fun l4 el4 => ?_)
  refine x_lstore (lv' := [(5, .long (l4)), (0, .ref 45), (1, .ref 7), (2, .ref 43), (3, .int (iI (sd))), (4, .int (iI (mn)))]) C dX3_lay_14 (nlt rfl) rfl ?_
  refine x_lload C dX3_lay_16 rfl ?_
  refine x_aload_n (i := 1) C dX3_lay_18 rfl rfl ?_
  refine x_getL C fkX_X3_32 (nlt rfl) rfl dX3_lay_19 ?_
  refine x_genL (fun l5 el5 => ?_)
  refine x_ldc2 C dX3_lay_22 cnX3_36 ?_
  refine x_lxor C dX3_lay_25 ?_
  refine x_genL (fun l6 el6 => ?_)
  refine x_land C dX3_lay_26 ?_
  refine x_genL (fun l7 el7 => ?_)
  refine x_lstore (lv' := [(7, .long (l7)), (5, .long (l4)), (0, .ref 45), (1, .ref 7), (2, .ref 43), (3, .int (iI (sd))), (4, .int (iI (mn)))]) C dX3_lay_27 (nlt rfl) rfl ?_
  refine x_aload_n (i := 0) C dX3_lay_29 rfl rfl ?_
  refine x_lconst C dX3_lay_30 ?_
  refine x_eqL (b := 0) rfl ?_
  refine x_putL C pkX_X3_38 (nlt rfl) rfl dX3_lay_31 ?_
  refine x_gX (fun Yy8 eYy8 => ?_)
  have hHy8 : HG vX Yy8 := by
    rw [eYy8]
    exact hg_wLF hH (p := ((-9223372036854775808), 9223372036854775807)) rfl (l64 _)
  have hFy8 : FR (cMd k_X_95) X0 Yy8 := by
    rw [eYy8]
    exact FR.upL hF (rfl)
  replace eYy8 : Yy8 = upL X0 45 2 (0) := eYy8
  refine x_iconst C dX3_lay_34 ?_
  refine x_istore (lv' := [(9, .int (iI (0))), (7, .long (l7)), (5, .long (l4)), (0, .ref 45), (1, .ref 7), (2, .ref 43), (3, .int (iI (sd))), (4, .int (iI (mn)))]) C dX3_lay_35 (nlt rfl) rfl ?_
  refine Wx_pick [9, 7, 0, 1, 2, 3, 4, 5] ?_
  refine Wx_lv (lv' := [(9, .int (iI (0))), (7, .long (l7)), (0, .ref 45), (1, .ref 7), (2, .ref 43), (3, .int (iI (sd))), (4, .int (iI (mn))), (5, .long (l4))]) rfl ?_
  exact xl_lay45_7_43 ss mm C hQ 7 0 _ _ (by omega) (by omega) (by omega) (by rw [el7]; exact m36_and (by rw [el4, el3]; exact m36_all (wh_36 (by omega) (by omega) (by omega) (by omega)))) hHy8 hFy8
set_option maxRecDepth 10000 in
theorem t_X_95 {D : va_G} {ad : Nat → Nat} {cA : Nat → ClassId} : CTR mtX vX gX (wX D ad cA) k_X_95 := by
  intro g X hpre
  obtain ⟨h00, hei, hel, hdl, hH, hE⟩ := hpre
  have h0 : (0 : Int) ≤ g.1 0 ∧ g.1 0 ≤ (0 : Int) := hei 0 _ rfl
  have h1 : ((-2147483648) : Int) ≤ g.1 1 ∧ g.1 1 ≤ (2147483647 : Int) := hei 1 _ rfl
  have h2 : ((-2147483648) : Int) ≤ g.1 2 ∧ g.1 2 ≤ (2147483647 : Int) := hei 2 _ rfl
  refine MetX.imp (fun r X1 hp => ?_) (xf_lay45_7_43 (X0 := X) (sd := g.1 1 + 0) (mn := g.1 2 + 0) ⟨by omega, by omega⟩ ⟨by omega, by omega⟩ hH FR.rf)
  obtain ⟨rfl, hH1, hF1, hG1⟩ := hp
  have e1 := gokX_1 hG1
  exact (altM_mk 0 [1] rfl (ei_cons ⟨by show (0 : Int) ≤ g.1 0; omega, by show g.1 0 ≤ (0 : Int); omega⟩ (ei_cons ⟨by show ((-2147483648) : Int) ≤ g.1 1; omega, by show g.1 1 ≤ (2147483647 : Int); omega⟩ (ei_cons ⟨by show ((-2147483648) : Int) ≤ g.1 2; omega, by show g.1 2 ≤ (2147483647 : Int); omega⟩ (ei_cons ⟨by show (1 : Int) ≤ 1; omega, by show 1 ≤ (1 : Int); omega⟩ ei_nil)))) el_nil (by rfl) (dl_cons (gh_mk rfl (by show gokX 46 47 X1 = (1 : Int) + 0; omega)) dl_nil) gd_nil hH1 (wdX.2.1 X X1 (fun k i hp => hF1 k i (nprX (md := cMd k_X_95) (by decide +kernel) hp)) hE) hF1)
set_option maxHeartbeats 4000000 in
set_option maxRecDepth 100000 in
theorem xl_lay45_10_43 {D : va_G} {ad : Nat → Nat} {cA : Nat → ClassId} {X0 : XT} {all : Int64} {sd mn : Int} (ss : inR sd) (mm : inR mn) {E : ET} (C : CX E (wX D ad cA) cX3_lay 10 RX3 none { frames := 2, cells := 0, slots := 0, locals := 49 }) (hQ : EQ E (wX D ad cA) (fun r X1 => r = none ∧ HG vX X1 ∧ FR (cMd k_X_110) X0 X1 ∧ GOKP 46 47 X1)) : ∀ (n : Nat) (i : Int) (o : Int64) (X : XT), 6 - i < n → 0 ≤ i → i ≤ 6 → m36 o → HG vX X → FR (cMd k_X_110) X0 X → Wx E (wX D ad cA) 10 (PX (wX D ad cA) X) 37 [(9, .int (iI (i))), (7, .long (o)), (0, .ref 45), (1, .ref 10), (2, .ref 43), (3, .int (iI (sd))), (4, .int (iI (mn))), (5, .long (all))] [] := by
  intro n
  induction n with
  | zero => intro i o X hn i0 i1 om hH hF; exfalso; omega
  | succ n ih =>
    intro i o X hn i0 i1 om hH hF
    unfold inR at ss mm
    refine x_iload C dX3_lay_37 rfl ?_
    refine x_aload_n (i := 1) C dX3_lay_39 rfl rfl ?_
    refine x_getI C fkX_X3_41 (nlt rfl) rfl dX3_lay_40 ?_
    refine x_gen (fun v1 ev1 => ?_)
    have qv1 : (0 : Int) ≤ v1 ∧ v1 ≤ (6 : Int) := by
      rw [ev1]
      exact hH.rF (k := 10) (i := 4) rfl rfl
    refine x_icmp_ge (tgt := 113) C dX3_lay_43 (by decide) ⟨by omega, by omega⟩ ⟨by omega, by omega⟩ (fun h2 => ?_) (fun h2 => ?_)
    · refine x_aload_n (i := 0) C dX3_lay_113 rfl rfl ?_
      refine x_aload_n (i := 0) C dX3_lay_114 rfl rfl ?_
      refine x_getL C fkX_X3_38 (nlt rfl) rfl dX3_lay_115 ?_
      refine x_genL (fun l3 el3 => ?_)
      refine x_aload_n (i := 1) C dX3_lay_118 rfl rfl ?_
      refine x_getL C fkX_X3_47 (nlt rfl) rfl dX3_lay_119 ?_
      refine x_genL (fun l4 el4 => ?_)
      refine x_lor C dX3_lay_122 ?_
      refine x_genL (fun l5 el5 => ?_)
      refine x_putL C pkX_X3_50 (nlt rfl) rfl dX3_lay_123 ?_
      refine x_gX (fun Yy6 eYy6 => ?_)
      have hHy6 : HG vX Yy6 := by
        rw [eYy6]
        exact hg_wLF hH (p := ((-9223372036854775808), 9223372036854775807)) rfl (l64 _)
      have hFy6 : FR (cMd k_X_110) X0 Yy6 := by
        rw [eYy6]
        exact FR.upL hF (rfl)
      replace eYy6 : Yy6 = upL X 45 4 (l5) := eYy6
      refine x_aload_n (i := 0) C dX3_lay_126 rfl rfl ?_
      refine x_getRs (r := 47) C fkX_X3_15 (nlt rfl) rfl (HG.rR hHy6 (k := 45) (i := 1) rfl rfl) dX3_lay_127 ?_
      refine x_iconst C dX3_lay_130 ?_
      refine x_aload_n (i := 1) C dX3_lay_131 rfl rfl ?_
      refine x_getI C fkX_X3_19 (nlt rfl) rfl dX3_lay_132 ?_
      refine x_gen (fun v7 ev7 => ?_)
      have qv7 : (0 : Int) ≤ v7 ∧ v7 ≤ (6 : Int) := by
        rw [ev7]
        exact hHy6.rF (k := 10) (i := 0) rfl rfl
      have wv7 : v7 = X0.1 10 0 := by rw [ev7, (hFy6 10 0 rfl).1]
      refine x_ineg C dX3_lay_135 ?_
      refine x_iast C (nlt rfl) rfl rfl (nle rfl) (by omega) (by omega) dX3_lay_136 ?_
      refine x_gX (fun Yy8 eYy8 => ?_)
      have hHy8 : HG vX Yy8 := by
        rw [eYy8]
        exact hg_wA hHy6 (n := 4) (p := ((-6), 6)) (by decide +kernel) (by omega) ⟨by omega, by omega⟩
      have hFy8 : FR (cMd k_X_110) X0 Yy8 := by
        rw [eYy8]
        exact FR.upI hFy6 (rfl)
      replace eYy8 : Yy8 = upI Yy6 47 0 (-v7) := eYy8
      refine x_aload_n (i := 0) C dX3_lay_137 rfl rfl ?_
      refine x_getRs (r := 47) C fkX_X3_15 (nlt rfl) rfl (HG.rR hHy8 (k := 45) (i := 1) rfl rfl) dX3_lay_138 ?_
      refine x_iconst C dX3_lay_141 ?_
      refine x_iconst C dX3_lay_142 ?_
      refine x_iast C (nlt rfl) rfl rfl (nle rfl) (by omega) (by omega) dX3_lay_143 ?_
      refine x_gX (fun Yy9 eYy9 => ?_)
      have hHy9 : HG vX Yy9 := by
        rw [eYy9]
        exact hg_wA hHy8 (n := 4) (p := ((-6), 6)) (by decide +kernel) (by omega) ⟨by omega, by omega⟩
      have hFy9 : FR (cMd k_X_110) X0 Yy9 := by
        rw [eYy9]
        exact FR.upI hFy8 (rfl)
      replace eYy9 : Yy9 = upI Yy8 47 1 (1) := eYy9
      refine x_aload_n (i := 0) C dX3_lay_144 rfl rfl ?_
      refine x_getRs (r := 47) C fkX_X3_15 (nlt rfl) rfl (HG.rR hHy9 (k := 45) (i := 1) rfl rfl) dX3_lay_145 ?_
      refine x_iconst C dX3_lay_148 ?_
      refine x_aload_n (i := 1) C dX3_lay_149 rfl rfl ?_
      refine x_getI C fkX_X3_19 (nlt rfl) rfl dX3_lay_150 ?_
      refine x_gen (fun v10 ev10 => ?_)
      have qv10 : (0 : Int) ≤ v10 ∧ v10 ≤ (6 : Int) := by
        rw [ev10]
        exact hHy9.rF (k := 10) (i := 0) rfl rfl
      have wv10 : v10 = X0.1 10 0 := by rw [ev10, (hFy9 10 0 rfl).1]
      refine x_iast C (nlt rfl) rfl rfl (nle rfl) (by omega) (by omega) dX3_lay_153 ?_
      refine x_gX (fun Yy11 eYy11 => ?_)
      have hHy11 : HG vX Yy11 := by
        rw [eYy11]
        exact hg_wA hHy9 (n := 4) (p := ((-6), 6)) (by decide +kernel) (by omega) ⟨by omega, by omega⟩
      have hFy11 : FR (cMd k_X_110) X0 Yy11 := by
        rw [eYy11]
        exact FR.upI hFy9 (rfl)
      replace eYy11 : Yy11 = upI Yy9 47 2 (v10) := eYy11
      refine x_aload_n (i := 0) C dX3_lay_154 rfl rfl ?_
      refine x_getRs (r := 47) C fkX_X3_15 (nlt rfl) rfl (HG.rR hHy11 (k := 45) (i := 1) rfl rfl) dX3_lay_155 ?_
      refine x_iconst C dX3_lay_158 ?_
      refine x_iconst C dX3_lay_159 ?_
      refine x_iast C (nlt rfl) rfl rfl (nle rfl) (by omega) (by omega) dX3_lay_160 ?_
      refine x_gX (fun Yy12 eYy12 => ?_)
      have hHy12 : HG vX Yy12 := by
        rw [eYy12]
        exact hg_wA hHy11 (n := 4) (p := ((-6), 6)) (by decide +kernel) (by omega) ⟨by omega, by omega⟩
      have hFy12 : FR (cMd k_X_110) X0 Yy12 := by
        rw [eYy12]
        exact FR.upI hFy11 (rfl)
      replace eYy12 : Yy12 = upI Yy11 47 3 ((-1)) := eYy12
      refine x_aload_n (i := 0) C dX3_lay_161 rfl rfl ?_
      refine x_aload_n (i := 1) C dX3_lay_162 rfl rfl ?_
      refine x_lload C dX3_lay_163 rfl ?_
      refine x_lload C dX3_lay_165 rfl ?_
      refine x_callV (As := [.ref 10, .long (all), .long (o)]) C (by exact (xf_layN45_10 (all := all) (op := o) hHy12 FR.rf)) ckX3_53 im_X3_layNeighbours se_X3_layNeighbours (nlt rfl) rfl rfl rfl rfl (nle rfl) (by exact ⟨nle rfl, nle rfl⟩) dX3_lay_167 ?_
      rintro _ Yy13 ⟨rfl, hHy13, hGy13, P0y13, P1y13, P2y13, P3y13⟩
      have hFy13 : FR (cMd k_X_110) X0 Yy13 := FR.tr hFy12 hGy13 (by decide)
      refine Wx_st (st' := []) rfl ?_
      exact x_vret C hQ dX3_lay_170 (⟨rfl, hHy13, hFy13, by (intro s hs j hj ht); (have lt : ∀ i, tb o i = true → i < 36 := fun i hi => by (by_cases q : i < 36); (exact q); (rw [m36_iff.mp om i (by omega)] at hi; cases hi)); (rcases (show s = 0 ∨ s = 1 ∨ s = 2 ∨ s = 3 by omega) with rfl | rfl | rfl | rfl); ((have p := P0y13 j hj ht); (have := lt _ p.2); (rw [(hGy13 47 0 rfl).1, eYy12, upI_ne (by decide), eYy11, upI_ne (by decide), eYy9, upI_ne (by decide), eYy8, upI_at]); (have p1 := p.1); (have wq := (show Yy12.1 10 0 = v10 by rw [(hFy12 10 0 rfl).1, wv10])); (rw [wq] at this p1); (omega)); ((have := lt _ (P1y13 j hj ht)); (rw [(hGy13 47 1 rfl).1, eYy12, upI_ne (by decide), eYy11, upI_ne (by decide), eYy9, upI_at]); (omega)); ((have := lt _ (P2y13 j hj ht)); (rw [(hGy13 47 2 rfl).1, eYy12, upI_ne (by decide), eYy11, upI_at]); (have wq := (show Yy12.1 10 0 = v10 by rw [(hFy12 10 0 rfl).1, wv10])); (rw [wq] at this); (omega)); ((have p := P3y13 j hj ht); (have := lt _ p.2); (rw [(hGy13 47 3 rfl).1, eYy12, upI_at]); (have p1 := p.1); (omega))⟩)
    · refine x_iload C dX3_lay_46 rfl ?_
      refine x_iload C dX3_lay_48 rfl ?_
      refine x_icmp_eq (tgt := 107) C dX3_lay_50 (by decide) ⟨by omega, by omega⟩ ⟨by omega, by omega⟩ (fun h14 => ?_) (fun h14 => ?_)
      · refine x_iinc (lv' := [(9, .int (iI (i + 1))), (7, .long (o)), (0, .ref 45), (1, .ref 10), (2, .ref 43), (3, .int (iI (sd))), (4, .int (iI (mn))), (5, .long (all))]) C dX3_lay_107 rfl (nlt rfl) rfl ?_
        refine x_goto (tgt := 37) C dX3_lay_110 (by decide) ?_
        refine Wx_pick [9, 7, 0, 1, 2, 3, 4, 5] ?_
        refine Wx_lv (lv' := [(9, .int (iI (i + 1))), (7, .long (o)), (0, .ref 45), (1, .ref 10), (2, .ref 43), (3, .int (iI (sd))), (4, .int (iI (mn))), (5, .long (all))]) rfl ?_
        exact ih _ _ _ (by omega) (by omega) (by omega) om hH hF
      · refine x_aload_n (i := 2) C dX3_lay_53 rfl rfl ?_
        refine x_iload C dX3_lay_54 rfl ?_
        refine x_iald C (nlt rfl) rfl rfl (nle rfl) (by omega) (by omega) dX3_lay_56 ?_
        refine x_gen (fun v15 ev15 => ?_)
        have qv15 : ((-2147483648) : Int) ≤ v15 ∧ v15 ≤ (2147483647 : Int) := by
          rw [ev15]
          exact hH.rA (k := 43) (n := 6) (p := ((-2147483648), 2147483647)) (nlt rfl) rfl (by decide +kernel) (by omega)
        refine x_iconst C dX3_lay_57 ?_
        refine x_icmp_eq (tgt := 107) C dX3_lay_58 (by decide) ⟨by omega, by omega⟩ ⟨by omega, by omega⟩ (fun h16 => ?_) (fun h16 => ?_)
        · refine x_iinc (lv' := [(9, .int (iI (i + 1))), (7, .long (o)), (0, .ref 45), (1, .ref 10), (2, .ref 43), (3, .int (iI (sd))), (4, .int (iI (mn))), (5, .long (all))]) C dX3_lay_107 rfl (nlt rfl) rfl ?_
          refine x_goto (tgt := 37) C dX3_lay_110 (by decide) ?_
          refine Wx_pick [9, 7, 0, 1, 2, 3, 4, 5] ?_
          refine Wx_lv (lv' := [(9, .int (iI (i + 1))), (7, .long (o)), (0, .ref 45), (1, .ref 10), (2, .ref 43), (3, .int (iI (sd))), (4, .int (iI (mn))), (5, .long (all))]) rfl ?_
          exact ih _ _ _ (by omega) (by omega) (by omega) om hH hF
        · refine x_aload_n (i := 1) C dX3_lay_61 rfl rfl ?_
          refine x_getRs (r := 11) C fkX_X3_44 (nlt rfl) rfl (HG.rR hH (k := 10) (i := 5) rfl rfl) dX3_lay_62 ?_
          refine x_iload C dX3_lay_65 rfl ?_
          refine x_iald C (nlt rfl) rfl rfl (nle rfl) (by omega) (by omega) dX3_lay_67 ?_
          refine x_gen (fun v17 ev17 => ?_)
          have qv17 : ((-2147483648) : Int) ≤ v17 ∧ v17 ≤ (2147483647 : Int) := by
            rw [ev17]
            exact hH.rA (k := 11) (n := 6) (p := ((-2147483648), 2147483647)) (nlt rfl) rfl (by decide +kernel) (by omega)
          refine x_iload_n (i := 3) C dX3_lay_68 rfl rfl ?_
          refine x_icmp_ne (tgt := 91) C dX3_lay_69 (by decide) ⟨by omega, by omega⟩ ⟨by omega, by omega⟩ (fun h18 => ?_) (fun h18 => ?_)
          · refine x_aload_n (i := 0) C dX3_lay_91 rfl rfl ?_
            refine x_dup C dX3_lay_92 rfl ?_
            refine x_getL C fkX_X3_38 (nlt rfl) rfl dX3_lay_93 ?_
            refine x_genL (fun l19 el19 => ?_)
            refine x_aload_n (i := 2) C dX3_lay_96 rfl rfl ?_
            refine x_iload C dX3_lay_97 rfl ?_
            refine x_iald C (nlt rfl) rfl rfl (nle rfl) (by omega) (by omega) dX3_lay_99 ?_
            refine x_gen (fun v20 ev20 => ?_)
            have qv20 : ((-2147483648) : Int) ≤ v20 ∧ v20 ≤ (2147483647 : Int) := by
              rw [ev20]
              exact hH.rA (k := 43) (n := 6) (p := ((-2147483648), 2147483647)) (nlt rfl) rfl (by decide +kernel) (by omega)
            refine x_callSN (As := [.int (iI (v20))]) C (by exact (xf_bit (f := v20))) cnX3_28 rfl rfl (nle rfl) (by exact ⟨nle rfl, nle rfl⟩) dX3_lay_100 ?_
            rintro _ Xl21 ⟨hxl21, rfl⟩
            rw [hxl21]
            refine Wx_st (st' := [.long ((1 : Int64) <<< ((iI (v20)).toInt64 &&& 63)), .long (l19), .ref 45]) rfl ?_
            refine x_genL (fun l21 el21 => ?_)
            refine Wx_st (st' := [.long (l21), .long (l19), .ref 45]) rfl ?_
            refine x_lor C dX3_lay_103 ?_
            refine x_genL (fun l22 el22 => ?_)
            refine x_putL C pkX_X3_38 (nlt rfl) rfl dX3_lay_104 ?_
            refine x_gX (fun Yy23 eYy23 => ?_)
            have hHy23 : HG vX Yy23 := by
              rw [eYy23]
              exact hg_wLF hH (p := ((-9223372036854775808), 9223372036854775807)) rfl (l64 _)
            have hFy23 : FR (cMd k_X_110) X0 Yy23 := by
              rw [eYy23]
              exact FR.upL hF (rfl)
            replace eYy23 : Yy23 = upL X 45 2 (l22) := eYy23
            refine x_iinc (lv' := [(9, .int (iI (i + 1))), (7, .long (o)), (0, .ref 45), (1, .ref 10), (2, .ref 43), (3, .int (iI (sd))), (4, .int (iI (mn))), (5, .long (all))]) C dX3_lay_107 rfl (nlt rfl) rfl ?_
            refine x_goto (tgt := 37) C dX3_lay_110 (by decide) ?_
            refine Wx_pick [9, 7, 0, 1, 2, 3, 4, 5] ?_
            refine Wx_lv (lv' := [(9, .int (iI (i + 1))), (7, .long (o)), (0, .ref 45), (1, .ref 10), (2, .ref 43), (3, .int (iI (sd))), (4, .int (iI (mn))), (5, .long (all))]) rfl ?_
            exact ih _ _ _ (by omega) (by omega) (by omega) om hHy23 hFy23
          · refine x_lload C dX3_lay_72 rfl ?_
            refine x_aload_n (i := 2) C dX3_lay_74 rfl rfl ?_
            refine x_iload C dX3_lay_75 rfl ?_
            refine x_iald C (nlt rfl) rfl rfl (nle rfl) (by omega) (by omega) dX3_lay_77 ?_
            refine x_gen (fun v24 ev24 => ?_)
            have qv24 : ((-2147483648) : Int) ≤ v24 ∧ v24 ≤ (2147483647 : Int) := by
              rw [ev24]
              exact hH.rA (k := 43) (n := 6) (p := ((-2147483648), 2147483647)) (nlt rfl) rfl (by decide +kernel) (by omega)
            refine x_callSN (As := [.int (iI (v24))]) C (by exact (xf_bit (f := v24))) cnX3_28 rfl rfl (nle rfl) (by exact ⟨nle rfl, nle rfl⟩) dX3_lay_78 ?_
            rintro _ Xl25 ⟨hxl25, rfl⟩
            rw [hxl25]
            refine Wx_st (st' := [.long ((1 : Int64) <<< ((iI (v24)).toInt64 &&& 63)), .long (o)]) rfl ?_
            refine x_genL (fun l25 el25 => ?_)
            refine Wx_st (st' := [.long (l25), .long (o)]) rfl ?_
            refine x_ldc2 C dX3_lay_81 cnX3_36 ?_
            refine x_lxor C dX3_lay_84 ?_
            refine x_genL (fun l26 el26 => ?_)
            refine x_land C dX3_lay_85 ?_
            refine x_genL (fun l27 el27 => ?_)
            refine x_lstore (lv' := [(7, .long (l27)), (9, .int (iI (i))), (0, .ref 45), (1, .ref 10), (2, .ref 43), (3, .int (iI (sd))), (4, .int (iI (mn))), (5, .long (all))]) C dX3_lay_86 (nlt rfl) rfl ?_
            refine x_goto (tgt := 107) C dX3_lay_88 (by decide) ?_
            refine x_iinc (lv' := [(9, .int (iI (i + 1))), (7, .long (l27)), (0, .ref 45), (1, .ref 10), (2, .ref 43), (3, .int (iI (sd))), (4, .int (iI (mn))), (5, .long (all))]) C dX3_lay_107 rfl (nlt rfl) rfl ?_
            refine x_goto (tgt := 37) C dX3_lay_110 (by decide) ?_
            refine Wx_pick [9, 7, 0, 1, 2, 3, 4, 5] ?_
            refine Wx_lv (lv' := [(9, .int (iI (i + 1))), (7, .long (l27)), (0, .ref 45), (1, .ref 10), (2, .ref 43), (3, .int (iI (sd))), (4, .int (iI (mn))), (5, .long (all))]) rfl ?_
            exact ih _ _ _ (by omega) (by omega) (by omega) (by rw [el27]; exact m36_and om) hH hF
set_option maxHeartbeats 4000000 in
set_option maxRecDepth 100000 in
theorem xf_lay45_10_43 {D : va_G} {ad : Nat → Nat} {cA : Nat → ClassId} {X0 : XT} {sd mn : Int} (ss : inR sd) (mm : inR mn) (hH : HG vX X0) (hF : FR (cMd k_X_110) X0 X0) : MetX (wX D ad cA) yX3_lay cX3_lay 10 none 2 49 [.ref 45, .ref 10, .ref 43, .int (iI (sd)), .int (iI (mn))] X0 (fun r X1 => r = none ∧ HG vX X1 ∧ FR (cMd k_X_110) X0 X1 ∧ GOKP 46 47 X1) := by
  have ss' := ss
  have mm' := mm
  unfold inR at ss' mm'
  refine MetX.mk (own := RX3) (by decide +kernel) rfl (nle rfl) (fun E C hQ => ?_)
  refine Wx_lv (lv' := [(0, .ref 45), (1, .ref 10), (2, .ref 43), (3, .int (iI (sd))), (4, .int (iI (mn)))]) rfl ?_
  refine x_aload_n (i := 1) C dX3_lay_0 rfl rfl ?_
  refine x_getI C fkX_X3_19 (nlt rfl) rfl dX3_lay_1 ?_
  refine x_gen (fun v1 ev1 => ?_)
  have qv1 : (0 : Int) ≤ v1 ∧ v1 ≤ (6 : Int) := by
    rw [ev1]
    exact hH.rF (k := 10) (i := 0) rfl rfl
  refine x_aload_n (i := 1) C dX3_lay_4 rfl rfl ?_
  refine x_getI C fkX_X3_25 (nlt rfl) rfl dX3_lay_5 ?_
  refine x_gen (fun v2 ev2 => ?_)
  have qv2 : (0 : Int) ≤ v2 ∧ v2 ≤ (6 : Int) := by
    rw [ev2]
    exact hH.rF (k := 10) (i := 1) rfl rfl
  refine x_imul C dX3_lay_8 ?_
  refine x_callSN (As := [.int (iI (v1 * v2))]) C (by exact (xf_bit (f := v1 * v2))) cnX3_28 rfl rfl (nle rfl) (by exact ⟨nle rfl, nle rfl⟩) dX3_lay_9 ?_
  rintro _ Xl3 ⟨hxl3, rfl⟩
  rw [hxl3]
  refine Wx_st (st' := [.long ((1 : Int64) <<< ((iI (v1 * v2)).toInt64 &&& 63))]) rfl ?_
  refine x_genL (fun l3 el3 => ?_)
  refine Wx_st (st' := [.long (l3)]) rfl ?_
  refine x_lconst C dX3_lay_12 ?_
  refine x_eqL (b := 1) rfl ?_
  refine x_lsub C dX3_lay_13 ?_
  refine x_genL (fun l4 el4 => ?_)
  refine x_lstore (lv' := [(5, .long (l4)), (0, .ref 45), (1, .ref 10), (2, .ref 43), (3, .int (iI (sd))), (4, .int (iI (mn)))]) C dX3_lay_14 (nlt rfl) rfl ?_
  refine x_lload C dX3_lay_16 rfl ?_
  refine x_aload_n (i := 1) C dX3_lay_18 rfl rfl ?_
  refine x_getL C fkX_X3_32 (nlt rfl) rfl dX3_lay_19 ?_
  refine x_genL (fun l5 el5 => ?_)
  refine x_ldc2 C dX3_lay_22 cnX3_36 ?_
  refine x_lxor C dX3_lay_25 ?_
  refine x_genL (fun l6 el6 => ?_)
  refine x_land C dX3_lay_26 ?_
  refine x_genL (fun l7 el7 => ?_)
  refine x_lstore (lv' := [(7, .long (l7)), (5, .long (l4)), (0, .ref 45), (1, .ref 10), (2, .ref 43), (3, .int (iI (sd))), (4, .int (iI (mn)))]) C dX3_lay_27 (nlt rfl) rfl ?_
  refine x_aload_n (i := 0) C dX3_lay_29 rfl rfl ?_
  refine x_lconst C dX3_lay_30 ?_
  refine x_eqL (b := 0) rfl ?_
  refine x_putL C pkX_X3_38 (nlt rfl) rfl dX3_lay_31 ?_
  refine x_gX (fun Yy8 eYy8 => ?_)
  have hHy8 : HG vX Yy8 := by
    rw [eYy8]
    exact hg_wLF hH (p := ((-9223372036854775808), 9223372036854775807)) rfl (l64 _)
  have hFy8 : FR (cMd k_X_110) X0 Yy8 := by
    rw [eYy8]
    exact FR.upL hF (rfl)
  replace eYy8 : Yy8 = upL X0 45 2 (0) := eYy8
  refine x_iconst C dX3_lay_34 ?_
  refine x_istore (lv' := [(9, .int (iI (0))), (7, .long (l7)), (5, .long (l4)), (0, .ref 45), (1, .ref 10), (2, .ref 43), (3, .int (iI (sd))), (4, .int (iI (mn)))]) C dX3_lay_35 (nlt rfl) rfl ?_
  refine Wx_pick [9, 7, 0, 1, 2, 3, 4, 5] ?_
  refine Wx_lv (lv' := [(9, .int (iI (0))), (7, .long (l7)), (0, .ref 45), (1, .ref 10), (2, .ref 43), (3, .int (iI (sd))), (4, .int (iI (mn))), (5, .long (l4))]) rfl ?_
  exact xl_lay45_10_43 ss mm C hQ 7 0 _ _ (by omega) (by omega) (by omega) (by rw [el7]; exact m36_and (by rw [el4, el3]; exact m36_all (wh_36 (by omega) (by omega) (by omega) (by omega)))) hHy8 hFy8
set_option maxRecDepth 10000 in
theorem t_X_110 {D : va_G} {ad : Nat → Nat} {cA : Nat → ClassId} : CTR mtX vX gX (wX D ad cA) k_X_110 := by
  intro g X hpre
  obtain ⟨h00, hei, hel, hdl, hH, hE⟩ := hpre
  have h0 : (0 : Int) ≤ g.1 0 ∧ g.1 0 ≤ (0 : Int) := hei 0 _ rfl
  have h1 : ((-2147483648) : Int) ≤ g.1 1 ∧ g.1 1 ≤ (2147483647 : Int) := hei 1 _ rfl
  have h2 : ((-2147483648) : Int) ≤ g.1 2 ∧ g.1 2 ≤ (2147483647 : Int) := hei 2 _ rfl
  refine MetX.imp (fun r X1 hp => ?_) (xf_lay45_10_43 (X0 := X) (sd := g.1 1 + 0) (mn := g.1 2 + 0) ⟨by omega, by omega⟩ ⟨by omega, by omega⟩ hH FR.rf)
  obtain ⟨rfl, hH1, hF1, hG1⟩ := hp
  have e1 := gokX_1 hG1
  exact (altM_mk 0 [1] rfl (ei_cons ⟨by show (0 : Int) ≤ g.1 0; omega, by show g.1 0 ≤ (0 : Int); omega⟩ (ei_cons ⟨by show ((-2147483648) : Int) ≤ g.1 1; omega, by show g.1 1 ≤ (2147483647 : Int); omega⟩ (ei_cons ⟨by show ((-2147483648) : Int) ≤ g.1 2; omega, by show g.1 2 ≤ (2147483647 : Int); omega⟩ (ei_cons ⟨by show (1 : Int) ≤ 1; omega, by show 1 ≤ (1 : Int); omega⟩ ei_nil)))) el_nil (by rfl) (dl_cons (gh_mk rfl (by show gokX 46 47 X1 = (1 : Int) + 0; omega)) dl_nil) gd_nil hH1 (wdX.2.1 X X1 (fun k i hp => hF1 k i (nprX (md := cMd k_X_110) (by decide +kernel) hp)) hE) hF1)
abbrev mdLN56 : List (Nat × Option Nat) := [(57, none), (56, some 3)]
set_option maxHeartbeats 4000000 in
set_option maxRecDepth 100000 in
theorem xl_layN56_7 {D : va_G} {ad : Nat → Nat} {cA : Nat → ClassId} {X : XT} {all op : Int64} (hH : HG vX X) (hF : FR mdLN56 X X) {E : ET} (C : CX E (wX D ad cA) cX3_layNeighbours 10 RX3 none { frames := 1, cells := 0, slots := 0, locals := 20 }) (hQ : EQ E (wX D ad cA) (fun r X1 => r = none ∧ HG vX X1 ∧ FR mdLN56 X X1 ∧ (∀ j, j < 64 → tb (X1.2.1 57 0) j = true → (X.1 7 0 ≤ (j : Int) ∧ tb op (j - (X.1 7 0).toNat) = true)) ∧ (∀ j, j < 64 → tb (X1.2.1 57 1) j = true → tb op (j + 1) = true) ∧ (∀ j, j < 64 → tb (X1.2.1 57 2) j = true → tb op ((X.1 7 0).toNat + j) = true) ∧ (∀ j, j < 64 → tb (X1.2.1 57 3) j = true → (1 ≤ (j : Int) ∧ tb op (j - 1) = true)))) : ∀ (n : Nat) (i : Int) (we : Int64), 6 - i < n → 0 ≤ i → i ≤ 6 → Wx E (wX D ad cA) 10 (PX (wX D ad cA) X) 6 [(8, .int (iI (i))), (6, .long (we)), (0, .ref 56), (1, .ref 7), (2, .long (all)), (4, .long (op))] [] := by
  intro n
  induction n with
  | zero => intro i we hn i0 i1; exfalso; omega
  | succ n ih =>
    intro i we hn i0 i1
    refine x_iload C dX3_layNeighbours_6 rfl ?_
    refine x_aload_n (i := 1) C dX3_layNeighbours_8 rfl rfl ?_
    refine x_getI C fkX_X3_25 (nlt rfl) rfl dX3_layNeighbours_9 ?_
    refine x_gen (fun v1 ev1 => ?_)
    have qv1 : (0 : Int) ≤ v1 ∧ v1 ≤ (6 : Int) := by
      rw [ev1]
      exact hH.rF (k := 7) (i := 1) rfl rfl
    refine x_icmp_ge (tgt := 36) C dX3_layNeighbours_12 (by decide) ⟨by omega, by omega⟩ ⟨by omega, by omega⟩ (fun h2 => ?_) (fun h2 => ?_)
    · refine x_lload C dX3_layNeighbours_36 rfl ?_
      refine x_aload_n (i := 1) C dX3_layNeighbours_38 rfl rfl ?_
      refine x_getI C fkX_X3_19 (nlt rfl) rfl dX3_layNeighbours_39 ?_
      refine x_gen (fun v3 ev3 => ?_)
      have qv3 : (0 : Int) ≤ v3 ∧ v3 ≤ (6 : Int) := by
        rw [ev3]
        exact hH.rF (k := 7) (i := 0) rfl rfl
      refine x_iconst C dX3_layNeighbours_42 ?_
      refine x_isub C dX3_layNeighbours_43 ?_
      refine x_lshl C dX3_layNeighbours_44 ?_
      refine x_genL (fun l4 el4 => ?_)
      refine x_lstore (lv' := [(8, .long (l4)), (6, .long (we)), (0, .ref 56), (1, .ref 7), (2, .long (all)), (4, .long (op))]) C dX3_layNeighbours_45 (nlt rfl) rfl ?_
      refine x_aload_n (i := 0) C dX3_layNeighbours_47 rfl rfl ?_
      refine x_getRs (r := 57) C fkX_X3_9 (nlt rfl) rfl (HG.rR hH (k := 56) (i := 0) rfl rfl) dX3_layNeighbours_48 ?_
      refine x_iconst C dX3_layNeighbours_51 ?_
      refine x_lload C dX3_layNeighbours_52 rfl ?_
      refine x_aload_n (i := 1) C dX3_layNeighbours_54 rfl rfl ?_
      refine x_getI C fkX_X3_19 (nlt rfl) rfl dX3_layNeighbours_55 ?_
      refine x_gen (fun v5 ev5 => ?_)
      have qv5 : (0 : Int) ≤ v5 ∧ v5 ≤ (6 : Int) := by
        rw [ev5]
        exact hH.rF (k := 7) (i := 0) rfl rfl
      refine x_lshl C dX3_layNeighbours_58 ?_
      refine x_genL (fun l6 el6 => ?_)
      refine x_lload_n (i := 2) C dX3_layNeighbours_59 rfl rfl ?_
      refine x_land C dX3_layNeighbours_60 ?_
      refine x_genL (fun l7 el7 => ?_)
      refine x_last C (nlt rfl) rfl rfl (nle rfl) (by omega) (by omega) dX3_layNeighbours_61 ?_
      refine x_gX (fun Yy8 eYy8 => ?_)
      have hHy8 : HG vX Yy8 := by
        rw [eYy8]
        exact hg_wLA hH (n := 4) (p := ((-9223372036854775808), 9223372036854775807)) (by decide +kernel) (by omega) (l64 _)
      have hFy8 : FR mdLN56 X Yy8 := by
        rw [eYy8]
        exact FR.upL hF (rfl)
      replace eYy8 : Yy8 = upL X 57 0 (l7) := eYy8
      refine x_aload_n (i := 0) C dX3_layNeighbours_62 rfl rfl ?_
      refine x_getRs (r := 57) C fkX_X3_9 (nlt rfl) rfl (HG.rR hHy8 (k := 56) (i := 0) rfl rfl) dX3_layNeighbours_63 ?_
      refine x_iconst C dX3_layNeighbours_66 ?_
      refine x_lload C dX3_layNeighbours_67 rfl ?_
      refine x_lload C dX3_layNeighbours_69 rfl ?_
      refine x_ldc2 C dX3_layNeighbours_71 cnX3_36 ?_
      refine x_lxor C dX3_layNeighbours_74 ?_
      refine x_genL (fun l9 el9 => ?_)
      refine x_land C dX3_layNeighbours_75 ?_
      refine x_genL (fun l10 el10 => ?_)
      refine x_iconst C dX3_layNeighbours_76 ?_
      refine x_lushr C dX3_layNeighbours_77 ?_
      refine x_genL (fun l11 el11 => ?_)
      refine x_last C (nlt rfl) rfl rfl (nle rfl) (by omega) (by omega) dX3_layNeighbours_78 ?_
      refine x_gX (fun Yy12 eYy12 => ?_)
      have hHy12 : HG vX Yy12 := by
        rw [eYy12]
        exact hg_wLA hHy8 (n := 4) (p := ((-9223372036854775808), 9223372036854775807)) (by decide +kernel) (by omega) (l64 _)
      have hFy12 : FR mdLN56 X Yy12 := by
        rw [eYy12]
        exact FR.upL hFy8 (rfl)
      replace eYy12 : Yy12 = upL Yy8 57 1 (l11) := eYy12
      refine x_aload_n (i := 0) C dX3_layNeighbours_79 rfl rfl ?_
      refine x_getRs (r := 57) C fkX_X3_9 (nlt rfl) rfl (HG.rR hHy12 (k := 56) (i := 0) rfl rfl) dX3_layNeighbours_80 ?_
      refine x_iconst C dX3_layNeighbours_83 ?_
      refine x_lload C dX3_layNeighbours_84 rfl ?_
      refine x_aload_n (i := 1) C dX3_layNeighbours_86 rfl rfl ?_
      refine x_getI C fkX_X3_19 (nlt rfl) rfl dX3_layNeighbours_87 ?_
      refine x_gen (fun v13 ev13 => ?_)
      have qv13 : (0 : Int) ≤ v13 ∧ v13 ≤ (6 : Int) := by
        rw [ev13]
        exact hHy12.rF (k := 7) (i := 0) rfl rfl
      refine x_lushr C dX3_layNeighbours_90 ?_
      refine x_genL (fun l14 el14 => ?_)
      refine x_last C (nlt rfl) rfl rfl (nle rfl) (by omega) (by omega) dX3_layNeighbours_91 ?_
      refine x_gX (fun Yy15 eYy15 => ?_)
      have hHy15 : HG vX Yy15 := by
        rw [eYy15]
        exact hg_wLA hHy12 (n := 4) (p := ((-9223372036854775808), 9223372036854775807)) (by decide +kernel) (by omega) (l64 _)
      have hFy15 : FR mdLN56 X Yy15 := by
        rw [eYy15]
        exact FR.upL hFy12 (rfl)
      replace eYy15 : Yy15 = upL Yy12 57 2 (l14) := eYy15
      refine x_aload_n (i := 0) C dX3_layNeighbours_92 rfl rfl ?_
      refine x_getRs (r := 57) C fkX_X3_9 (nlt rfl) rfl (HG.rR hHy15 (k := 56) (i := 0) rfl rfl) dX3_layNeighbours_93 ?_
      refine x_iconst C dX3_layNeighbours_96 ?_
      refine x_lload C dX3_layNeighbours_97 rfl ?_
      refine x_lload C dX3_layNeighbours_99 rfl ?_
      refine x_ldc2 C dX3_layNeighbours_101 cnX3_36 ?_
      refine x_lxor C dX3_layNeighbours_104 ?_
      refine x_genL (fun l16 el16 => ?_)
      refine x_land C dX3_layNeighbours_105 ?_
      refine x_genL (fun l17 el17 => ?_)
      refine x_iconst C dX3_layNeighbours_106 ?_
      refine x_lshl C dX3_layNeighbours_107 ?_
      refine x_genL (fun l18 el18 => ?_)
      refine x_last C (nlt rfl) rfl rfl (nle rfl) (by omega) (by omega) dX3_layNeighbours_108 ?_
      refine x_gX (fun Yy19 eYy19 => ?_)
      have hHy19 : HG vX Yy19 := by
        rw [eYy19]
        exact hg_wLA hHy15 (n := 4) (p := ((-9223372036854775808), 9223372036854775807)) (by decide +kernel) (by omega) (l64 _)
      have hFy19 : FR mdLN56 X Yy19 := by
        rw [eYy19]
        exact FR.upL hFy15 (rfl)
      replace eYy19 : Yy19 = upL Yy15 57 3 (l18) := eYy19
      refine x_aload_n (i := 0) C dX3_layNeighbours_109 rfl rfl ?_
      refine x_aload_n (i := 0) C dX3_layNeighbours_110 rfl rfl ?_
      refine x_getL C fkX_X3_38 (nlt rfl) rfl dX3_layNeighbours_111 ?_
      refine x_genL (fun l20 el20 => ?_)
      refine x_aload_n (i := 1) C dX3_layNeighbours_114 rfl rfl ?_
      refine x_getI C fkX_X3_19 (nlt rfl) rfl dX3_layNeighbours_115 ?_
      refine x_gen (fun v21 ev21 => ?_)
      have qv21 : (0 : Int) ≤ v21 ∧ v21 ≤ (6 : Int) := by
        rw [ev21]
        exact hHy19.rF (k := 7) (i := 0) rfl rfl
      refine x_lshl C dX3_layNeighbours_118 ?_
      refine x_genL (fun l22 el22 => ?_)
      refine x_lload_n (i := 2) C dX3_layNeighbours_119 rfl rfl ?_
      refine x_land C dX3_layNeighbours_120 ?_
      refine x_genL (fun l23 el23 => ?_)
      refine x_aload_n (i := 0) C dX3_layNeighbours_121 rfl rfl ?_
      refine x_getL C fkX_X3_38 (nlt rfl) rfl dX3_layNeighbours_122 ?_
      refine x_genL (fun l24 el24 => ?_)
      refine x_lload C dX3_layNeighbours_125 rfl ?_
      refine x_ldc2 C dX3_layNeighbours_127 cnX3_36 ?_
      refine x_lxor C dX3_layNeighbours_130 ?_
      refine x_genL (fun l25 el25 => ?_)
      refine x_land C dX3_layNeighbours_131 ?_
      refine x_genL (fun l26 el26 => ?_)
      refine x_iconst C dX3_layNeighbours_132 ?_
      refine x_lushr C dX3_layNeighbours_133 ?_
      refine x_genL (fun l27 el27 => ?_)
      refine x_lor C dX3_layNeighbours_134 ?_
      refine x_genL (fun l28 el28 => ?_)
      refine x_aload_n (i := 0) C dX3_layNeighbours_135 rfl rfl ?_
      refine x_getL C fkX_X3_38 (nlt rfl) rfl dX3_layNeighbours_136 ?_
      refine x_genL (fun l29 el29 => ?_)
      refine x_aload_n (i := 1) C dX3_layNeighbours_139 rfl rfl ?_
      refine x_getI C fkX_X3_19 (nlt rfl) rfl dX3_layNeighbours_140 ?_
      refine x_gen (fun v30 ev30 => ?_)
      have qv30 : (0 : Int) ≤ v30 ∧ v30 ≤ (6 : Int) := by
        rw [ev30]
        exact hHy19.rF (k := 7) (i := 0) rfl rfl
      refine x_lushr C dX3_layNeighbours_143 ?_
      refine x_genL (fun l31 el31 => ?_)
      refine x_lor C dX3_layNeighbours_144 ?_
      refine x_genL (fun l32 el32 => ?_)
      refine x_aload_n (i := 0) C dX3_layNeighbours_145 rfl rfl ?_
      refine x_getL C fkX_X3_38 (nlt rfl) rfl dX3_layNeighbours_146 ?_
      refine x_genL (fun l33 el33 => ?_)
      refine x_lload C dX3_layNeighbours_149 rfl ?_
      refine x_ldc2 C dX3_layNeighbours_151 cnX3_36 ?_
      refine x_lxor C dX3_layNeighbours_154 ?_
      refine x_genL (fun l34 el34 => ?_)
      refine x_land C dX3_layNeighbours_155 ?_
      refine x_genL (fun l35 el35 => ?_)
      refine x_iconst C dX3_layNeighbours_156 ?_
      refine x_lshl C dX3_layNeighbours_157 ?_
      refine x_genL (fun l36 el36 => ?_)
      refine x_lor C dX3_layNeighbours_158 ?_
      refine x_genL (fun l37 el37 => ?_)
      refine x_putL C pkX_X3_57 (nlt rfl) rfl dX3_layNeighbours_159 ?_
      refine x_gX (fun Yy38 eYy38 => ?_)
      have hHy38 : HG vX Yy38 := by
        rw [eYy38]
        exact hg_wLF hHy19 (p := ((-9223372036854775808), 9223372036854775807)) rfl (l64 _)
      have hFy38 : FR mdLN56 X Yy38 := by
        rw [eYy38]
        exact FR.upL hFy19 (rfl)
      replace eYy38 : Yy38 = upL Yy19 56 3 (l37) := eYy38
      exact x_vret C hQ dX3_layNeighbours_162 (⟨rfl, hHy38, hFy38, (by (have wv3 : v3 = X.1 7 0 := by rw [ev3]); (have wv5 : v5 = X.1 7 0 := by rw [ev5]); (have wv13 : v13 = X.1 7 0 := by rw [ev13, (hFy12 7 0 rfl).1]); (have wv21 : v21 = X.1 7 0 := by rw [ev21, (hFy19 7 0 rfl).1]); (have wv30 : v30 = X.1 7 0 := by rw [ev30, (hFy19 7 0 rfl).1]); (intro j hj ht); (rw [eYy38, upL_nc (by decide), eYy19, upL_ne (by decide), eYy15, upL_ne (by decide), eYy12, upL_ne (by decide), eYy8, upL_at] at ht); (rw [el7, tb_and, Bool.and_eq_true, el6, tb_shl] at ht); (have h1 := ht.1); (simp only [Bool.and_eq_true, Bool.not_eq_true', decide_eq_false_iff_not, decide_eq_true_eq] at h1); (have e1 : (v5 % 64).toNat = (X.1 7 0).toNat := by omega); (rw [e1] at h1); (exact ⟨by omega, h1.2.2⟩)), (by (have wv3 : v3 = X.1 7 0 := by rw [ev3]); (have wv5 : v5 = X.1 7 0 := by rw [ev5]); (have wv13 : v13 = X.1 7 0 := by rw [ev13, (hFy12 7 0 rfl).1]); (have wv21 : v21 = X.1 7 0 := by rw [ev21, (hFy19 7 0 rfl).1]); (have wv30 : v30 = X.1 7 0 := by rw [ev30, (hFy19 7 0 rfl).1]); (intro j hj ht); (rw [eYy38, upL_nc (by decide), eYy19, upL_ne (by decide), eYy15, upL_ne (by decide), eYy12, upL_at] at ht); (rw [el11, tb_ushr, el10, tb_and, Bool.and_eq_true] at ht); (rw [Nat.add_comm]); (exact ht.1)), (by (have wv3 : v3 = X.1 7 0 := by rw [ev3]); (have wv5 : v5 = X.1 7 0 := by rw [ev5]); (have wv13 : v13 = X.1 7 0 := by rw [ev13, (hFy12 7 0 rfl).1]); (have wv21 : v21 = X.1 7 0 := by rw [ev21, (hFy19 7 0 rfl).1]); (have wv30 : v30 = X.1 7 0 := by rw [ev30, (hFy19 7 0 rfl).1]); (intro j hj ht); (rw [eYy38, upL_nc (by decide), eYy19, upL_ne (by decide), eYy15, upL_at] at ht); (rw [el14, tb_ushr] at ht); (have e1 : (v13 % 64).toNat = (X.1 7 0).toNat := by omega); (rw [e1] at ht); (exact ht)), (by (have wv3 : v3 = X.1 7 0 := by rw [ev3]); (have wv5 : v5 = X.1 7 0 := by rw [ev5]); (have wv13 : v13 = X.1 7 0 := by rw [ev13, (hFy12 7 0 rfl).1]); (have wv21 : v21 = X.1 7 0 := by rw [ev21, (hFy19 7 0 rfl).1]); (have wv30 : v30 = X.1 7 0 := by rw [ev30, (hFy19 7 0 rfl).1]); (intro j hj ht); (rw [eYy38, upL_nc (by decide), eYy19, upL_at] at ht); (rw [el18, tb_shl, el17, tb_and] at ht); (simp only [Bool.and_eq_true, Bool.not_eq_true', decide_eq_false_iff_not, decide_eq_true_eq] at ht); (have h1 := ht.2); (exact ⟨by have := h1.1; have e1 : ((1 : Int) % 64).toNat = 1 := rfl; omega, h1.2.1⟩))⟩)
    · refine x_lload C dX3_layNeighbours_15 rfl ?_
      refine x_iload C dX3_layNeighbours_17 rfl ?_
      refine x_aload_n (i := 1) C dX3_layNeighbours_19 rfl rfl ?_
      refine x_getI C fkX_X3_19 (nlt rfl) rfl dX3_layNeighbours_20 ?_
      refine x_gen (fun v39 ev39 => ?_)
      have qv39 : (0 : Int) ≤ v39 ∧ v39 ≤ (6 : Int) := by
        rw [ev39]
        exact hH.rF (k := 7) (i := 0) rfl rfl
      refine x_imul C dX3_layNeighbours_23 ?_
      refine x_callSN (As := [.int (iI (i * v39))]) C (by exact (xf_bit (f := i * v39))) cnX3_28 rfl rfl (nle rfl) (by exact ⟨nle rfl, nle rfl⟩) dX3_layNeighbours_24 ?_
      rintro _ Xl40 ⟨hxl40, rfl⟩
      rw [hxl40]
      refine Wx_st (st' := [.long ((1 : Int64) <<< ((iI (i * v39)).toInt64 &&& 63)), .long (we)]) rfl ?_
      refine x_genL (fun l40 el40 => ?_)
      refine Wx_st (st' := [.long (l40), .long (we)]) rfl ?_
      refine x_lor C dX3_layNeighbours_27 ?_
      refine x_genL (fun l41 el41 => ?_)
      refine x_lstore (lv' := [(6, .long (l41)), (8, .int (iI (i))), (0, .ref 56), (1, .ref 7), (2, .long (all)), (4, .long (op))]) C dX3_layNeighbours_28 (nlt rfl) rfl ?_
      refine x_iinc (lv' := [(8, .int (iI (i + 1))), (6, .long (l41)), (0, .ref 56), (1, .ref 7), (2, .long (all)), (4, .long (op))]) C dX3_layNeighbours_30 rfl (nlt rfl) rfl ?_
      refine x_goto (tgt := 6) C dX3_layNeighbours_33 (by decide) ?_
      refine Wx_pick [8, 6, 0, 1, 2, 4] ?_
      refine Wx_lv (lv' := [(8, .int (iI (i + 1))), (6, .long (l41)), (0, .ref 56), (1, .ref 7), (2, .long (all)), (4, .long (op))]) rfl ?_
      exact ih _ _ (by omega) (by omega) (by omega)
set_option maxHeartbeats 4000000 in
set_option maxRecDepth 100000 in
theorem xf_layN56_7 {D : va_G} {ad : Nat → Nat} {cA : Nat → ClassId} {X : XT} {all op : Int64} (hH : HG vX X) (hF : FR mdLN56 X X) : MetX (wX D ad cA) yX3_layNeighbours cX3_layNeighbours 10 none 1 20 [.ref 56, .ref 7, .long (all), .long (op)] X (fun r X1 => r = none ∧ HG vX X1 ∧ FR mdLN56 X X1 ∧ (∀ j, j < 64 → tb (X1.2.1 57 0) j = true → (X.1 7 0 ≤ (j : Int) ∧ tb op (j - (X.1 7 0).toNat) = true)) ∧ (∀ j, j < 64 → tb (X1.2.1 57 1) j = true → tb op (j + 1) = true) ∧ (∀ j, j < 64 → tb (X1.2.1 57 2) j = true → tb op ((X.1 7 0).toNat + j) = true) ∧ (∀ j, j < 64 → tb (X1.2.1 57 3) j = true → (1 ≤ (j : Int) ∧ tb op (j - 1) = true))) := by
  refine MetX.mk (own := RX3) (by decide +kernel) rfl (nle rfl) (fun E C hQ => ?_)
  refine Wx_lv (lv' := [(0, .ref 56), (1, .ref 7), (2, .long (all)), (4, .long (op))]) rfl ?_
  refine x_lconst C dX3_layNeighbours_0 ?_
  refine x_eqL (b := 0) rfl ?_
  refine x_lstore (lv' := [(6, .long (0)), (0, .ref 56), (1, .ref 7), (2, .long (all)), (4, .long (op))]) C dX3_layNeighbours_1 (nlt rfl) rfl ?_
  refine x_iconst C dX3_layNeighbours_3 ?_
  refine x_istore (lv' := [(8, .int (iI (0))), (6, .long (0)), (0, .ref 56), (1, .ref 7), (2, .long (all)), (4, .long (op))]) C dX3_layNeighbours_4 (nlt rfl) rfl ?_
  refine Wx_pick [8, 6, 0, 1, 2, 4] ?_
  refine Wx_lv (lv' := [(8, .int (iI (0))), (6, .long (0)), (0, .ref 56), (1, .ref 7), (2, .long (all)), (4, .long (op))]) rfl ?_
  exact xl_layN56_7 hH hF C hQ 7 0 0 (by omega) (by omega) (by omega)
set_option maxHeartbeats 4000000 in
set_option maxRecDepth 100000 in
theorem xl_lay56_7_9 {D : va_G} {ad : Nat → Nat} {cA : Nat → ClassId} {X0 : XT} {all : Int64} {sd mn : Int} (ss : inR sd) (mm : inR mn) {E : ET} (C : CX E (wX D ad cA) cX3_lay 10 RX3 none { frames := 2, cells := 0, slots := 0, locals := 49 }) (hQ : EQ E (wX D ad cA) (fun r X1 => r = none ∧ HG vX X1 ∧ FR (cMd k_X_152) X0 X1 ∧ GOKP 57 58 X1)) : ∀ (n : Nat) (i : Int) (o : Int64) (X : XT), 6 - i < n → 0 ≤ i → i ≤ 6 → m36 o → HG vX X → FR (cMd k_X_152) X0 X → Wx E (wX D ad cA) 10 (PX (wX D ad cA) X) 37 [(9, .int (iI (i))), (7, .long (o)), (0, .ref 56), (1, .ref 7), (2, .ref 9), (3, .int (iI (sd))), (4, .int (iI (mn))), (5, .long (all))] [] := by
  intro n
  induction n with
  | zero => intro i o X hn i0 i1 om hH hF; exfalso; omega
  | succ n ih =>
    intro i o X hn i0 i1 om hH hF
    unfold inR at ss mm
    refine x_iload C dX3_lay_37 rfl ?_
    refine x_aload_n (i := 1) C dX3_lay_39 rfl rfl ?_
    refine x_getI C fkX_X3_41 (nlt rfl) rfl dX3_lay_40 ?_
    refine x_gen (fun v1 ev1 => ?_)
    have qv1 : (0 : Int) ≤ v1 ∧ v1 ≤ (6 : Int) := by
      rw [ev1]
      exact hH.rF (k := 7) (i := 4) rfl rfl
    refine x_icmp_ge (tgt := 113) C dX3_lay_43 (by decide) ⟨by omega, by omega⟩ ⟨by omega, by omega⟩ (fun h2 => ?_) (fun h2 => ?_)
    · refine x_aload_n (i := 0) C dX3_lay_113 rfl rfl ?_
      refine x_aload_n (i := 0) C dX3_lay_114 rfl rfl ?_
      refine x_getL C fkX_X3_38 (nlt rfl) rfl dX3_lay_115 ?_
      refine x_genL (fun l3 el3 => ?_)
      refine x_aload_n (i := 1) C dX3_lay_118 rfl rfl ?_
      refine x_getL C fkX_X3_47 (nlt rfl) rfl dX3_lay_119 ?_
      refine x_genL (fun l4 el4 => ?_)
      refine x_lor C dX3_lay_122 ?_
      refine x_genL (fun l5 el5 => ?_)
      refine x_putL C pkX_X3_50 (nlt rfl) rfl dX3_lay_123 ?_
      refine x_gX (fun Yy6 eYy6 => ?_)
      have hHy6 : HG vX Yy6 := by
        rw [eYy6]
        exact hg_wLF hH (p := ((-9223372036854775808), 9223372036854775807)) rfl (l64 _)
      have hFy6 : FR (cMd k_X_152) X0 Yy6 := by
        rw [eYy6]
        exact FR.upL hF (rfl)
      replace eYy6 : Yy6 = upL X 56 4 (l5) := eYy6
      refine x_aload_n (i := 0) C dX3_lay_126 rfl rfl ?_
      refine x_getRs (r := 58) C fkX_X3_15 (nlt rfl) rfl (HG.rR hHy6 (k := 56) (i := 1) rfl rfl) dX3_lay_127 ?_
      refine x_iconst C dX3_lay_130 ?_
      refine x_aload_n (i := 1) C dX3_lay_131 rfl rfl ?_
      refine x_getI C fkX_X3_19 (nlt rfl) rfl dX3_lay_132 ?_
      refine x_gen (fun v7 ev7 => ?_)
      have qv7 : (0 : Int) ≤ v7 ∧ v7 ≤ (6 : Int) := by
        rw [ev7]
        exact hHy6.rF (k := 7) (i := 0) rfl rfl
      have wv7 : v7 = X0.1 7 0 := by rw [ev7, (hFy6 7 0 rfl).1]
      refine x_ineg C dX3_lay_135 ?_
      refine x_iast C (nlt rfl) rfl rfl (nle rfl) (by omega) (by omega) dX3_lay_136 ?_
      refine x_gX (fun Yy8 eYy8 => ?_)
      have hHy8 : HG vX Yy8 := by
        rw [eYy8]
        exact hg_wA hHy6 (n := 4) (p := ((-6), 6)) (by decide +kernel) (by omega) ⟨by omega, by omega⟩
      have hFy8 : FR (cMd k_X_152) X0 Yy8 := by
        rw [eYy8]
        exact FR.upI hFy6 (rfl)
      replace eYy8 : Yy8 = upI Yy6 58 0 (-v7) := eYy8
      refine x_aload_n (i := 0) C dX3_lay_137 rfl rfl ?_
      refine x_getRs (r := 58) C fkX_X3_15 (nlt rfl) rfl (HG.rR hHy8 (k := 56) (i := 1) rfl rfl) dX3_lay_138 ?_
      refine x_iconst C dX3_lay_141 ?_
      refine x_iconst C dX3_lay_142 ?_
      refine x_iast C (nlt rfl) rfl rfl (nle rfl) (by omega) (by omega) dX3_lay_143 ?_
      refine x_gX (fun Yy9 eYy9 => ?_)
      have hHy9 : HG vX Yy9 := by
        rw [eYy9]
        exact hg_wA hHy8 (n := 4) (p := ((-6), 6)) (by decide +kernel) (by omega) ⟨by omega, by omega⟩
      have hFy9 : FR (cMd k_X_152) X0 Yy9 := by
        rw [eYy9]
        exact FR.upI hFy8 (rfl)
      replace eYy9 : Yy9 = upI Yy8 58 1 (1) := eYy9
      refine x_aload_n (i := 0) C dX3_lay_144 rfl rfl ?_
      refine x_getRs (r := 58) C fkX_X3_15 (nlt rfl) rfl (HG.rR hHy9 (k := 56) (i := 1) rfl rfl) dX3_lay_145 ?_
      refine x_iconst C dX3_lay_148 ?_
      refine x_aload_n (i := 1) C dX3_lay_149 rfl rfl ?_
      refine x_getI C fkX_X3_19 (nlt rfl) rfl dX3_lay_150 ?_
      refine x_gen (fun v10 ev10 => ?_)
      have qv10 : (0 : Int) ≤ v10 ∧ v10 ≤ (6 : Int) := by
        rw [ev10]
        exact hHy9.rF (k := 7) (i := 0) rfl rfl
      have wv10 : v10 = X0.1 7 0 := by rw [ev10, (hFy9 7 0 rfl).1]
      refine x_iast C (nlt rfl) rfl rfl (nle rfl) (by omega) (by omega) dX3_lay_153 ?_
      refine x_gX (fun Yy11 eYy11 => ?_)
      have hHy11 : HG vX Yy11 := by
        rw [eYy11]
        exact hg_wA hHy9 (n := 4) (p := ((-6), 6)) (by decide +kernel) (by omega) ⟨by omega, by omega⟩
      have hFy11 : FR (cMd k_X_152) X0 Yy11 := by
        rw [eYy11]
        exact FR.upI hFy9 (rfl)
      replace eYy11 : Yy11 = upI Yy9 58 2 (v10) := eYy11
      refine x_aload_n (i := 0) C dX3_lay_154 rfl rfl ?_
      refine x_getRs (r := 58) C fkX_X3_15 (nlt rfl) rfl (HG.rR hHy11 (k := 56) (i := 1) rfl rfl) dX3_lay_155 ?_
      refine x_iconst C dX3_lay_158 ?_
      refine x_iconst C dX3_lay_159 ?_
      refine x_iast C (nlt rfl) rfl rfl (nle rfl) (by omega) (by omega) dX3_lay_160 ?_
      refine x_gX (fun Yy12 eYy12 => ?_)
      have hHy12 : HG vX Yy12 := by
        rw [eYy12]
        exact hg_wA hHy11 (n := 4) (p := ((-6), 6)) (by decide +kernel) (by omega) ⟨by omega, by omega⟩
      have hFy12 : FR (cMd k_X_152) X0 Yy12 := by
        rw [eYy12]
        exact FR.upI hFy11 (rfl)
      replace eYy12 : Yy12 = upI Yy11 58 3 ((-1)) := eYy12
      refine x_aload_n (i := 0) C dX3_lay_161 rfl rfl ?_
      refine x_aload_n (i := 1) C dX3_lay_162 rfl rfl ?_
      refine x_lload C dX3_lay_163 rfl ?_
      refine x_lload C dX3_lay_165 rfl ?_
      refine x_callV (As := [.ref 7, .long (all), .long (o)]) C (by exact (xf_layN56_7 (all := all) (op := o) hHy12 FR.rf)) ckX3_53 im_X3_layNeighbours se_X3_layNeighbours (nlt rfl) rfl rfl rfl rfl (nle rfl) (by exact ⟨nle rfl, nle rfl⟩) dX3_lay_167 ?_
      rintro _ Yy13 ⟨rfl, hHy13, hGy13, P0y13, P1y13, P2y13, P3y13⟩
      have hFy13 : FR (cMd k_X_152) X0 Yy13 := FR.tr hFy12 hGy13 (by decide)
      refine Wx_st (st' := []) rfl ?_
      exact x_vret C hQ dX3_lay_170 (⟨rfl, hHy13, hFy13, by (intro s hs j hj ht); (have lt : ∀ i, tb o i = true → i < 36 := fun i hi => by (by_cases q : i < 36); (exact q); (rw [m36_iff.mp om i (by omega)] at hi; cases hi)); (rcases (show s = 0 ∨ s = 1 ∨ s = 2 ∨ s = 3 by omega) with rfl | rfl | rfl | rfl); ((have p := P0y13 j hj ht); (have := lt _ p.2); (rw [(hGy13 58 0 rfl).1, eYy12, upI_ne (by decide), eYy11, upI_ne (by decide), eYy9, upI_ne (by decide), eYy8, upI_at]); (have p1 := p.1); (have wq := (show Yy12.1 7 0 = v10 by rw [(hFy12 7 0 rfl).1, wv10])); (rw [wq] at this p1); (omega)); ((have := lt _ (P1y13 j hj ht)); (rw [(hGy13 58 1 rfl).1, eYy12, upI_ne (by decide), eYy11, upI_ne (by decide), eYy9, upI_at]); (omega)); ((have := lt _ (P2y13 j hj ht)); (rw [(hGy13 58 2 rfl).1, eYy12, upI_ne (by decide), eYy11, upI_at]); (have wq := (show Yy12.1 7 0 = v10 by rw [(hFy12 7 0 rfl).1, wv10])); (rw [wq] at this); (omega)); ((have p := P3y13 j hj ht); (have := lt _ p.2); (rw [(hGy13 58 3 rfl).1, eYy12, upI_at]); (have p1 := p.1); (omega))⟩)
    · refine x_iload C dX3_lay_46 rfl ?_
      refine x_iload C dX3_lay_48 rfl ?_
      refine x_icmp_eq (tgt := 107) C dX3_lay_50 (by decide) ⟨by omega, by omega⟩ ⟨by omega, by omega⟩ (fun h14 => ?_) (fun h14 => ?_)
      · refine x_iinc (lv' := [(9, .int (iI (i + 1))), (7, .long (o)), (0, .ref 56), (1, .ref 7), (2, .ref 9), (3, .int (iI (sd))), (4, .int (iI (mn))), (5, .long (all))]) C dX3_lay_107 rfl (nlt rfl) rfl ?_
        refine x_goto (tgt := 37) C dX3_lay_110 (by decide) ?_
        refine Wx_pick [9, 7, 0, 1, 2, 3, 4, 5] ?_
        refine Wx_lv (lv' := [(9, .int (iI (i + 1))), (7, .long (o)), (0, .ref 56), (1, .ref 7), (2, .ref 9), (3, .int (iI (sd))), (4, .int (iI (mn))), (5, .long (all))]) rfl ?_
        exact ih _ _ _ (by omega) (by omega) (by omega) om hH hF
      · refine x_aload_n (i := 2) C dX3_lay_53 rfl rfl ?_
        refine x_iload C dX3_lay_54 rfl ?_
        refine x_iald C (nlt rfl) rfl rfl (nle rfl) (by omega) (by omega) dX3_lay_56 ?_
        refine x_gen (fun v15 ev15 => ?_)
        have qv15 : ((-2147483648) : Int) ≤ v15 ∧ v15 ≤ (2147483647 : Int) := by
          rw [ev15]
          exact hH.rA (k := 9) (n := 6) (p := ((-2147483648), 2147483647)) (nlt rfl) rfl (by decide +kernel) (by omega)
        refine x_iconst C dX3_lay_57 ?_
        refine x_icmp_eq (tgt := 107) C dX3_lay_58 (by decide) ⟨by omega, by omega⟩ ⟨by omega, by omega⟩ (fun h16 => ?_) (fun h16 => ?_)
        · refine x_iinc (lv' := [(9, .int (iI (i + 1))), (7, .long (o)), (0, .ref 56), (1, .ref 7), (2, .ref 9), (3, .int (iI (sd))), (4, .int (iI (mn))), (5, .long (all))]) C dX3_lay_107 rfl (nlt rfl) rfl ?_
          refine x_goto (tgt := 37) C dX3_lay_110 (by decide) ?_
          refine Wx_pick [9, 7, 0, 1, 2, 3, 4, 5] ?_
          refine Wx_lv (lv' := [(9, .int (iI (i + 1))), (7, .long (o)), (0, .ref 56), (1, .ref 7), (2, .ref 9), (3, .int (iI (sd))), (4, .int (iI (mn))), (5, .long (all))]) rfl ?_
          exact ih _ _ _ (by omega) (by omega) (by omega) om hH hF
        · refine x_aload_n (i := 1) C dX3_lay_61 rfl rfl ?_
          refine x_getRs (r := 8) C fkX_X3_44 (nlt rfl) rfl (HG.rR hH (k := 7) (i := 5) rfl rfl) dX3_lay_62 ?_
          refine x_iload C dX3_lay_65 rfl ?_
          refine x_iald C (nlt rfl) rfl rfl (nle rfl) (by omega) (by omega) dX3_lay_67 ?_
          refine x_gen (fun v17 ev17 => ?_)
          have qv17 : ((-2147483648) : Int) ≤ v17 ∧ v17 ≤ (2147483647 : Int) := by
            rw [ev17]
            exact hH.rA (k := 8) (n := 6) (p := ((-2147483648), 2147483647)) (nlt rfl) rfl (by decide +kernel) (by omega)
          refine x_iload_n (i := 3) C dX3_lay_68 rfl rfl ?_
          refine x_icmp_ne (tgt := 91) C dX3_lay_69 (by decide) ⟨by omega, by omega⟩ ⟨by omega, by omega⟩ (fun h18 => ?_) (fun h18 => ?_)
          · refine x_aload_n (i := 0) C dX3_lay_91 rfl rfl ?_
            refine x_dup C dX3_lay_92 rfl ?_
            refine x_getL C fkX_X3_38 (nlt rfl) rfl dX3_lay_93 ?_
            refine x_genL (fun l19 el19 => ?_)
            refine x_aload_n (i := 2) C dX3_lay_96 rfl rfl ?_
            refine x_iload C dX3_lay_97 rfl ?_
            refine x_iald C (nlt rfl) rfl rfl (nle rfl) (by omega) (by omega) dX3_lay_99 ?_
            refine x_gen (fun v20 ev20 => ?_)
            have qv20 : ((-2147483648) : Int) ≤ v20 ∧ v20 ≤ (2147483647 : Int) := by
              rw [ev20]
              exact hH.rA (k := 9) (n := 6) (p := ((-2147483648), 2147483647)) (nlt rfl) rfl (by decide +kernel) (by omega)
            refine x_callSN (As := [.int (iI (v20))]) C (by exact (xf_bit (f := v20))) cnX3_28 rfl rfl (nle rfl) (by exact ⟨nle rfl, nle rfl⟩) dX3_lay_100 ?_
            rintro _ Xl21 ⟨hxl21, rfl⟩
            rw [hxl21]
            refine Wx_st (st' := [.long ((1 : Int64) <<< ((iI (v20)).toInt64 &&& 63)), .long (l19), .ref 56]) rfl ?_
            refine x_genL (fun l21 el21 => ?_)
            refine Wx_st (st' := [.long (l21), .long (l19), .ref 56]) rfl ?_
            refine x_lor C dX3_lay_103 ?_
            refine x_genL (fun l22 el22 => ?_)
            refine x_putL C pkX_X3_38 (nlt rfl) rfl dX3_lay_104 ?_
            refine x_gX (fun Yy23 eYy23 => ?_)
            have hHy23 : HG vX Yy23 := by
              rw [eYy23]
              exact hg_wLF hH (p := ((-9223372036854775808), 9223372036854775807)) rfl (l64 _)
            have hFy23 : FR (cMd k_X_152) X0 Yy23 := by
              rw [eYy23]
              exact FR.upL hF (rfl)
            replace eYy23 : Yy23 = upL X 56 2 (l22) := eYy23
            refine x_iinc (lv' := [(9, .int (iI (i + 1))), (7, .long (o)), (0, .ref 56), (1, .ref 7), (2, .ref 9), (3, .int (iI (sd))), (4, .int (iI (mn))), (5, .long (all))]) C dX3_lay_107 rfl (nlt rfl) rfl ?_
            refine x_goto (tgt := 37) C dX3_lay_110 (by decide) ?_
            refine Wx_pick [9, 7, 0, 1, 2, 3, 4, 5] ?_
            refine Wx_lv (lv' := [(9, .int (iI (i + 1))), (7, .long (o)), (0, .ref 56), (1, .ref 7), (2, .ref 9), (3, .int (iI (sd))), (4, .int (iI (mn))), (5, .long (all))]) rfl ?_
            exact ih _ _ _ (by omega) (by omega) (by omega) om hHy23 hFy23
          · refine x_lload C dX3_lay_72 rfl ?_
            refine x_aload_n (i := 2) C dX3_lay_74 rfl rfl ?_
            refine x_iload C dX3_lay_75 rfl ?_
            refine x_iald C (nlt rfl) rfl rfl (nle rfl) (by omega) (by omega) dX3_lay_77 ?_
            refine x_gen (fun v24 ev24 => ?_)
            have qv24 : ((-2147483648) : Int) ≤ v24 ∧ v24 ≤ (2147483647 : Int) := by
              rw [ev24]
              exact hH.rA (k := 9) (n := 6) (p := ((-2147483648), 2147483647)) (nlt rfl) rfl (by decide +kernel) (by omega)
            refine x_callSN (As := [.int (iI (v24))]) C (by exact (xf_bit (f := v24))) cnX3_28 rfl rfl (nle rfl) (by exact ⟨nle rfl, nle rfl⟩) dX3_lay_78 ?_
            rintro _ Xl25 ⟨hxl25, rfl⟩
            rw [hxl25]
            refine Wx_st (st' := [.long ((1 : Int64) <<< ((iI (v24)).toInt64 &&& 63)), .long (o)]) rfl ?_
            refine x_genL (fun l25 el25 => ?_)
            refine Wx_st (st' := [.long (l25), .long (o)]) rfl ?_
            refine x_ldc2 C dX3_lay_81 cnX3_36 ?_
            refine x_lxor C dX3_lay_84 ?_
            refine x_genL (fun l26 el26 => ?_)
            refine x_land C dX3_lay_85 ?_
            refine x_genL (fun l27 el27 => ?_)
            refine x_lstore (lv' := [(7, .long (l27)), (9, .int (iI (i))), (0, .ref 56), (1, .ref 7), (2, .ref 9), (3, .int (iI (sd))), (4, .int (iI (mn))), (5, .long (all))]) C dX3_lay_86 (nlt rfl) rfl ?_
            refine x_goto (tgt := 107) C dX3_lay_88 (by decide) ?_
            refine x_iinc (lv' := [(9, .int (iI (i + 1))), (7, .long (l27)), (0, .ref 56), (1, .ref 7), (2, .ref 9), (3, .int (iI (sd))), (4, .int (iI (mn))), (5, .long (all))]) C dX3_lay_107 rfl (nlt rfl) rfl ?_
            refine x_goto (tgt := 37) C dX3_lay_110 (by decide) ?_
            refine Wx_pick [9, 7, 0, 1, 2, 3, 4, 5] ?_
            refine Wx_lv (lv' := [(9, .int (iI (i + 1))), (7, .long (l27)), (0, .ref 56), (1, .ref 7), (2, .ref 9), (3, .int (iI (sd))), (4, .int (iI (mn))), (5, .long (all))]) rfl ?_
            exact ih _ _ _ (by omega) (by omega) (by omega) (by rw [el27]; exact m36_and om) hH hF
set_option maxHeartbeats 4000000 in
set_option maxRecDepth 100000 in
theorem xf_lay56_7_9 {D : va_G} {ad : Nat → Nat} {cA : Nat → ClassId} {X0 : XT} {sd mn : Int} (ss : inR sd) (mm : inR mn) (hH : HG vX X0) (hF : FR (cMd k_X_152) X0 X0) : MetX (wX D ad cA) yX3_lay cX3_lay 10 none 2 49 [.ref 56, .ref 7, .ref 9, .int (iI (sd)), .int (iI (mn))] X0 (fun r X1 => r = none ∧ HG vX X1 ∧ FR (cMd k_X_152) X0 X1 ∧ GOKP 57 58 X1) := by
  have ss' := ss
  have mm' := mm
  unfold inR at ss' mm'
  refine MetX.mk (own := RX3) (by decide +kernel) rfl (nle rfl) (fun E C hQ => ?_)
  refine Wx_lv (lv' := [(0, .ref 56), (1, .ref 7), (2, .ref 9), (3, .int (iI (sd))), (4, .int (iI (mn)))]) rfl ?_
  refine x_aload_n (i := 1) C dX3_lay_0 rfl rfl ?_
  refine x_getI C fkX_X3_19 (nlt rfl) rfl dX3_lay_1 ?_
  refine x_gen (fun v1 ev1 => ?_)
  have qv1 : (0 : Int) ≤ v1 ∧ v1 ≤ (6 : Int) := by
    rw [ev1]
    exact hH.rF (k := 7) (i := 0) rfl rfl
  refine x_aload_n (i := 1) C dX3_lay_4 rfl rfl ?_
  refine x_getI C fkX_X3_25 (nlt rfl) rfl dX3_lay_5 ?_
  refine x_gen (fun v2 ev2 => ?_)
  have qv2 : (0 : Int) ≤ v2 ∧ v2 ≤ (6 : Int) := by
    rw [ev2]
    exact hH.rF (k := 7) (i := 1) rfl rfl
  refine x_imul C dX3_lay_8 ?_
  refine x_callSN (As := [.int (iI (v1 * v2))]) C (by exact (xf_bit (f := v1 * v2))) cnX3_28 rfl rfl (nle rfl) (by exact ⟨nle rfl, nle rfl⟩) dX3_lay_9 ?_
  rintro _ Xl3 ⟨hxl3, rfl⟩
  rw [hxl3]
  refine Wx_st (st' := [.long ((1 : Int64) <<< ((iI (v1 * v2)).toInt64 &&& 63))]) rfl ?_
  refine x_genL (fun l3 el3 => ?_)
  refine Wx_st (st' := [.long (l3)]) rfl ?_
  refine x_lconst C dX3_lay_12 ?_
  refine x_eqL (b := 1) rfl ?_
  refine x_lsub C dX3_lay_13 ?_
  refine x_genL (fun l4 el4 => ?_)
  refine x_lstore (lv' := [(5, .long (l4)), (0, .ref 56), (1, .ref 7), (2, .ref 9), (3, .int (iI (sd))), (4, .int (iI (mn)))]) C dX3_lay_14 (nlt rfl) rfl ?_
  refine x_lload C dX3_lay_16 rfl ?_
  refine x_aload_n (i := 1) C dX3_lay_18 rfl rfl ?_
  refine x_getL C fkX_X3_32 (nlt rfl) rfl dX3_lay_19 ?_
  refine x_genL (fun l5 el5 => ?_)
  refine x_ldc2 C dX3_lay_22 cnX3_36 ?_
  refine x_lxor C dX3_lay_25 ?_
  refine x_genL (fun l6 el6 => ?_)
  refine x_land C dX3_lay_26 ?_
  refine x_genL (fun l7 el7 => ?_)
  refine x_lstore (lv' := [(7, .long (l7)), (5, .long (l4)), (0, .ref 56), (1, .ref 7), (2, .ref 9), (3, .int (iI (sd))), (4, .int (iI (mn)))]) C dX3_lay_27 (nlt rfl) rfl ?_
  refine x_aload_n (i := 0) C dX3_lay_29 rfl rfl ?_
  refine x_lconst C dX3_lay_30 ?_
  refine x_eqL (b := 0) rfl ?_
  refine x_putL C pkX_X3_38 (nlt rfl) rfl dX3_lay_31 ?_
  refine x_gX (fun Yy8 eYy8 => ?_)
  have hHy8 : HG vX Yy8 := by
    rw [eYy8]
    exact hg_wLF hH (p := ((-9223372036854775808), 9223372036854775807)) rfl (l64 _)
  have hFy8 : FR (cMd k_X_152) X0 Yy8 := by
    rw [eYy8]
    exact FR.upL hF (rfl)
  replace eYy8 : Yy8 = upL X0 56 2 (0) := eYy8
  refine x_iconst C dX3_lay_34 ?_
  refine x_istore (lv' := [(9, .int (iI (0))), (7, .long (l7)), (5, .long (l4)), (0, .ref 56), (1, .ref 7), (2, .ref 9), (3, .int (iI (sd))), (4, .int (iI (mn)))]) C dX3_lay_35 (nlt rfl) rfl ?_
  refine Wx_pick [9, 7, 0, 1, 2, 3, 4, 5] ?_
  refine Wx_lv (lv' := [(9, .int (iI (0))), (7, .long (l7)), (0, .ref 56), (1, .ref 7), (2, .ref 9), (3, .int (iI (sd))), (4, .int (iI (mn))), (5, .long (l4))]) rfl ?_
  exact xl_lay56_7_9 ss mm C hQ 7 0 _ _ (by omega) (by omega) (by omega) (by rw [el7]; exact m36_and (by rw [el4, el3]; exact m36_all (wh_36 (by omega) (by omega) (by omega) (by omega)))) hHy8 hFy8
set_option maxRecDepth 10000 in
theorem t_X_152 {D : va_G} {ad : Nat → Nat} {cA : Nat → ClassId} : CTR mtX vX gX (wX D ad cA) k_X_152 := by
  intro g X hpre
  obtain ⟨h00, hei, hel, hdl, hH, hE⟩ := hpre
  have h0 : (0 : Int) ≤ g.1 0 ∧ g.1 0 ≤ (0 : Int) := hei 0 _ rfl
  have h1 : ((-2147483648) : Int) ≤ g.1 1 ∧ g.1 1 ≤ (2147483647 : Int) := hei 1 _ rfl
  have h2 : ((-2147483648) : Int) ≤ g.1 2 ∧ g.1 2 ≤ (2147483647 : Int) := hei 2 _ rfl
  refine MetX.imp (fun r X1 hp => ?_) (xf_lay56_7_9 (X0 := X) (sd := g.1 1 + 0) (mn := g.1 2 + 0) ⟨by omega, by omega⟩ ⟨by omega, by omega⟩ hH FR.rf)
  obtain ⟨rfl, hH1, hF1, hG1⟩ := hp
  have e1 := gokX_1 hG1
  exact (altM_mk 0 [1] rfl (ei_cons ⟨by show (0 : Int) ≤ g.1 0; omega, by show g.1 0 ≤ (0 : Int); omega⟩ (ei_cons ⟨by show ((-2147483648) : Int) ≤ g.1 1; omega, by show g.1 1 ≤ (2147483647 : Int); omega⟩ (ei_cons ⟨by show ((-2147483648) : Int) ≤ g.1 2; omega, by show g.1 2 ≤ (2147483647 : Int); omega⟩ (ei_cons ⟨by show (1 : Int) ≤ 1; omega, by show 1 ≤ (1 : Int); omega⟩ ei_nil)))) el_nil (by rfl) (dl_cons (gh_mk rfl (by show gokX 57 58 X1 = (1 : Int) + 0; omega)) dl_nil) gd_nil hH1 (wdX.2.1 X X1 (fun k i hp => hF1 k i (nprX (md := cMd k_X_152) (by decide +kernel) hp)) hE) hF1)
set_option maxHeartbeats 4000000 in
set_option maxRecDepth 100000 in
theorem xl_layN56_10 {D : va_G} {ad : Nat → Nat} {cA : Nat → ClassId} {X : XT} {all op : Int64} (hH : HG vX X) (hF : FR mdLN56 X X) {E : ET} (C : CX E (wX D ad cA) cX3_layNeighbours 10 RX3 none { frames := 1, cells := 0, slots := 0, locals := 20 }) (hQ : EQ E (wX D ad cA) (fun r X1 => r = none ∧ HG vX X1 ∧ FR mdLN56 X X1 ∧ (∀ j, j < 64 → tb (X1.2.1 57 0) j = true → (X.1 10 0 ≤ (j : Int) ∧ tb op (j - (X.1 10 0).toNat) = true)) ∧ (∀ j, j < 64 → tb (X1.2.1 57 1) j = true → tb op (j + 1) = true) ∧ (∀ j, j < 64 → tb (X1.2.1 57 2) j = true → tb op ((X.1 10 0).toNat + j) = true) ∧ (∀ j, j < 64 → tb (X1.2.1 57 3) j = true → (1 ≤ (j : Int) ∧ tb op (j - 1) = true)))) : ∀ (n : Nat) (i : Int) (we : Int64), 6 - i < n → 0 ≤ i → i ≤ 6 → Wx E (wX D ad cA) 10 (PX (wX D ad cA) X) 6 [(8, .int (iI (i))), (6, .long (we)), (0, .ref 56), (1, .ref 10), (2, .long (all)), (4, .long (op))] [] := by
  intro n
  induction n with
  | zero => intro i we hn i0 i1; exfalso; omega
  | succ n ih =>
    intro i we hn i0 i1
    refine x_iload C dX3_layNeighbours_6 rfl ?_
    refine x_aload_n (i := 1) C dX3_layNeighbours_8 rfl rfl ?_
    refine x_getI C fkX_X3_25 (nlt rfl) rfl dX3_layNeighbours_9 ?_
    refine x_gen (fun v1 ev1 => ?_)
    have qv1 : (0 : Int) ≤ v1 ∧ v1 ≤ (6 : Int) := by
      rw [ev1]
      exact hH.rF (k := 10) (i := 1) rfl rfl
    refine x_icmp_ge (tgt := 36) C dX3_layNeighbours_12 (by decide) ⟨by omega, by omega⟩ ⟨by omega, by omega⟩ (fun h2 => ?_) (fun h2 => ?_)
    · refine x_lload C dX3_layNeighbours_36 rfl ?_
      refine x_aload_n (i := 1) C dX3_layNeighbours_38 rfl rfl ?_
      refine x_getI C fkX_X3_19 (nlt rfl) rfl dX3_layNeighbours_39 ?_
      refine x_gen (fun v3 ev3 => ?_)
      have qv3 : (0 : Int) ≤ v3 ∧ v3 ≤ (6 : Int) := by
        rw [ev3]
        exact hH.rF (k := 10) (i := 0) rfl rfl
      refine x_iconst C dX3_layNeighbours_42 ?_
      refine x_isub C dX3_layNeighbours_43 ?_
      refine x_lshl C dX3_layNeighbours_44 ?_
      refine x_genL (fun l4 el4 => ?_)
      refine x_lstore (lv' := [(8, .long (l4)), (6, .long (we)), (0, .ref 56), (1, .ref 10), (2, .long (all)), (4, .long (op))]) C dX3_layNeighbours_45 (nlt rfl) rfl ?_
      refine x_aload_n (i := 0) C dX3_layNeighbours_47 rfl rfl ?_
      refine x_getRs (r := 57) C fkX_X3_9 (nlt rfl) rfl (HG.rR hH (k := 56) (i := 0) rfl rfl) dX3_layNeighbours_48 ?_
      refine x_iconst C dX3_layNeighbours_51 ?_
      refine x_lload C dX3_layNeighbours_52 rfl ?_
      refine x_aload_n (i := 1) C dX3_layNeighbours_54 rfl rfl ?_
      refine x_getI C fkX_X3_19 (nlt rfl) rfl dX3_layNeighbours_55 ?_
      refine x_gen (fun v5 ev5 => ?_)
      have qv5 : (0 : Int) ≤ v5 ∧ v5 ≤ (6 : Int) := by
        rw [ev5]
        exact hH.rF (k := 10) (i := 0) rfl rfl
      refine x_lshl C dX3_layNeighbours_58 ?_
      refine x_genL (fun l6 el6 => ?_)
      refine x_lload_n (i := 2) C dX3_layNeighbours_59 rfl rfl ?_
      refine x_land C dX3_layNeighbours_60 ?_
      refine x_genL (fun l7 el7 => ?_)
      refine x_last C (nlt rfl) rfl rfl (nle rfl) (by omega) (by omega) dX3_layNeighbours_61 ?_
      refine x_gX (fun Yy8 eYy8 => ?_)
      have hHy8 : HG vX Yy8 := by
        rw [eYy8]
        exact hg_wLA hH (n := 4) (p := ((-9223372036854775808), 9223372036854775807)) (by decide +kernel) (by omega) (l64 _)
      have hFy8 : FR mdLN56 X Yy8 := by
        rw [eYy8]
        exact FR.upL hF (rfl)
      replace eYy8 : Yy8 = upL X 57 0 (l7) := eYy8
      refine x_aload_n (i := 0) C dX3_layNeighbours_62 rfl rfl ?_
      refine x_getRs (r := 57) C fkX_X3_9 (nlt rfl) rfl (HG.rR hHy8 (k := 56) (i := 0) rfl rfl) dX3_layNeighbours_63 ?_
      refine x_iconst C dX3_layNeighbours_66 ?_
      refine x_lload C dX3_layNeighbours_67 rfl ?_
      refine x_lload C dX3_layNeighbours_69 rfl ?_
      refine x_ldc2 C dX3_layNeighbours_71 cnX3_36 ?_
      refine x_lxor C dX3_layNeighbours_74 ?_
      refine x_genL (fun l9 el9 => ?_)
      refine x_land C dX3_layNeighbours_75 ?_
      refine x_genL (fun l10 el10 => ?_)
      refine x_iconst C dX3_layNeighbours_76 ?_
      refine x_lushr C dX3_layNeighbours_77 ?_
      refine x_genL (fun l11 el11 => ?_)
      refine x_last C (nlt rfl) rfl rfl (nle rfl) (by omega) (by omega) dX3_layNeighbours_78 ?_
      refine x_gX (fun Yy12 eYy12 => ?_)
      have hHy12 : HG vX Yy12 := by
        rw [eYy12]
        exact hg_wLA hHy8 (n := 4) (p := ((-9223372036854775808), 9223372036854775807)) (by decide +kernel) (by omega) (l64 _)
      have hFy12 : FR mdLN56 X Yy12 := by
        rw [eYy12]
        exact FR.upL hFy8 (rfl)
      replace eYy12 : Yy12 = upL Yy8 57 1 (l11) := eYy12
      refine x_aload_n (i := 0) C dX3_layNeighbours_79 rfl rfl ?_
      refine x_getRs (r := 57) C fkX_X3_9 (nlt rfl) rfl (HG.rR hHy12 (k := 56) (i := 0) rfl rfl) dX3_layNeighbours_80 ?_
      refine x_iconst C dX3_layNeighbours_83 ?_
      refine x_lload C dX3_layNeighbours_84 rfl ?_
      refine x_aload_n (i := 1) C dX3_layNeighbours_86 rfl rfl ?_
      refine x_getI C fkX_X3_19 (nlt rfl) rfl dX3_layNeighbours_87 ?_
      refine x_gen (fun v13 ev13 => ?_)
      have qv13 : (0 : Int) ≤ v13 ∧ v13 ≤ (6 : Int) := by
        rw [ev13]
        exact hHy12.rF (k := 10) (i := 0) rfl rfl
      refine x_lushr C dX3_layNeighbours_90 ?_
      refine x_genL (fun l14 el14 => ?_)
      refine x_last C (nlt rfl) rfl rfl (nle rfl) (by omega) (by omega) dX3_layNeighbours_91 ?_
      refine x_gX (fun Yy15 eYy15 => ?_)
      have hHy15 : HG vX Yy15 := by
        rw [eYy15]
        exact hg_wLA hHy12 (n := 4) (p := ((-9223372036854775808), 9223372036854775807)) (by decide +kernel) (by omega) (l64 _)
      have hFy15 : FR mdLN56 X Yy15 := by
        rw [eYy15]
        exact FR.upL hFy12 (rfl)
      replace eYy15 : Yy15 = upL Yy12 57 2 (l14) := eYy15
      refine x_aload_n (i := 0) C dX3_layNeighbours_92 rfl rfl ?_
      refine x_getRs (r := 57) C fkX_X3_9 (nlt rfl) rfl (HG.rR hHy15 (k := 56) (i := 0) rfl rfl) dX3_layNeighbours_93 ?_
      refine x_iconst C dX3_layNeighbours_96 ?_
      refine x_lload C dX3_layNeighbours_97 rfl ?_
      refine x_lload C dX3_layNeighbours_99 rfl ?_
      refine x_ldc2 C dX3_layNeighbours_101 cnX3_36 ?_
      refine x_lxor C dX3_layNeighbours_104 ?_
      refine x_genL (fun l16 el16 => ?_)
      refine x_land C dX3_layNeighbours_105 ?_
      refine x_genL (fun l17 el17 => ?_)
      refine x_iconst C dX3_layNeighbours_106 ?_
      refine x_lshl C dX3_layNeighbours_107 ?_
      refine x_genL (fun l18 el18 => ?_)
      refine x_last C (nlt rfl) rfl rfl (nle rfl) (by omega) (by omega) dX3_layNeighbours_108 ?_
      refine x_gX (fun Yy19 eYy19 => ?_)
      have hHy19 : HG vX Yy19 := by
        rw [eYy19]
        exact hg_wLA hHy15 (n := 4) (p := ((-9223372036854775808), 9223372036854775807)) (by decide +kernel) (by omega) (l64 _)
      have hFy19 : FR mdLN56 X Yy19 := by
        rw [eYy19]
        exact FR.upL hFy15 (rfl)
      replace eYy19 : Yy19 = upL Yy15 57 3 (l18) := eYy19
      refine x_aload_n (i := 0) C dX3_layNeighbours_109 rfl rfl ?_
      refine x_aload_n (i := 0) C dX3_layNeighbours_110 rfl rfl ?_
      refine x_getL C fkX_X3_38 (nlt rfl) rfl dX3_layNeighbours_111 ?_
      refine x_genL (fun l20 el20 => ?_)
      refine x_aload_n (i := 1) C dX3_layNeighbours_114 rfl rfl ?_
      refine x_getI C fkX_X3_19 (nlt rfl) rfl dX3_layNeighbours_115 ?_
      refine x_gen (fun v21 ev21 => ?_)
      have qv21 : (0 : Int) ≤ v21 ∧ v21 ≤ (6 : Int) := by
        rw [ev21]
        exact hHy19.rF (k := 10) (i := 0) rfl rfl
      refine x_lshl C dX3_layNeighbours_118 ?_
      refine x_genL (fun l22 el22 => ?_)
      refine x_lload_n (i := 2) C dX3_layNeighbours_119 rfl rfl ?_
      refine x_land C dX3_layNeighbours_120 ?_
      refine x_genL (fun l23 el23 => ?_)
      refine x_aload_n (i := 0) C dX3_layNeighbours_121 rfl rfl ?_
      refine x_getL C fkX_X3_38 (nlt rfl) rfl dX3_layNeighbours_122 ?_
      refine x_genL (fun l24 el24 => ?_)
      refine x_lload C dX3_layNeighbours_125 rfl ?_
      refine x_ldc2 C dX3_layNeighbours_127 cnX3_36 ?_
      refine x_lxor C dX3_layNeighbours_130 ?_
      refine x_genL (fun l25 el25 => ?_)
      refine x_land C dX3_layNeighbours_131 ?_
      refine x_genL (fun l26 el26 => ?_)
      refine x_iconst C dX3_layNeighbours_132 ?_
      refine x_lushr C dX3_layNeighbours_133 ?_
      refine x_genL (fun l27 el27 => ?_)
      refine x_lor C dX3_layNeighbours_134 ?_
      refine x_genL (fun l28 el28 => ?_)
      refine x_aload_n (i := 0) C dX3_layNeighbours_135 rfl rfl ?_
      refine x_getL C fkX_X3_38 (nlt rfl) rfl dX3_layNeighbours_136 ?_
      refine x_genL (fun l29 el29 => ?_)
      refine x_aload_n (i := 1) C dX3_layNeighbours_139 rfl rfl ?_
      refine x_getI C fkX_X3_19 (nlt rfl) rfl dX3_layNeighbours_140 ?_
      refine x_gen (fun v30 ev30 => ?_)
      have qv30 : (0 : Int) ≤ v30 ∧ v30 ≤ (6 : Int) := by
        rw [ev30]
        exact hHy19.rF (k := 10) (i := 0) rfl rfl
      refine x_lushr C dX3_layNeighbours_143 ?_
      refine x_genL (fun l31 el31 => ?_)
      refine x_lor C dX3_layNeighbours_144 ?_
      refine x_genL (fun l32 el32 => ?_)
      refine x_aload_n (i := 0) C dX3_layNeighbours_145 rfl rfl ?_
      refine x_getL C fkX_X3_38 (nlt rfl) rfl dX3_layNeighbours_146 ?_
      refine x_genL (fun l33 el33 => ?_)
      refine x_lload C dX3_layNeighbours_149 rfl ?_
      refine x_ldc2 C dX3_layNeighbours_151 cnX3_36 ?_
      refine x_lxor C dX3_layNeighbours_154 ?_
      refine x_genL (fun l34 el34 => ?_)
      refine x_land C dX3_layNeighbours_155 ?_
      refine x_genL (fun l35 el35 => ?_)
      refine x_iconst C dX3_layNeighbours_156 ?_
      refine x_lshl C dX3_layNeighbours_157 ?_
      refine x_genL (fun l36 el36 => ?_)
      refine x_lor C dX3_layNeighbours_158 ?_
      refine x_genL (fun l37 el37 => ?_)
      refine x_putL C pkX_X3_57 (nlt rfl) rfl dX3_layNeighbours_159 ?_
      refine x_gX (fun Yy38 eYy38 => ?_)
      have hHy38 : HG vX Yy38 := by
        rw [eYy38]
        exact hg_wLF hHy19 (p := ((-9223372036854775808), 9223372036854775807)) rfl (l64 _)
      have hFy38 : FR mdLN56 X Yy38 := by
        rw [eYy38]
        exact FR.upL hFy19 (rfl)
      replace eYy38 : Yy38 = upL Yy19 56 3 (l37) := eYy38
      exact x_vret C hQ dX3_layNeighbours_162 (⟨rfl, hHy38, hFy38, (by (have wv3 : v3 = X.1 10 0 := by rw [ev3]); (have wv5 : v5 = X.1 10 0 := by rw [ev5]); (have wv13 : v13 = X.1 10 0 := by rw [ev13, (hFy12 10 0 rfl).1]); (have wv21 : v21 = X.1 10 0 := by rw [ev21, (hFy19 10 0 rfl).1]); (have wv30 : v30 = X.1 10 0 := by rw [ev30, (hFy19 10 0 rfl).1]); (intro j hj ht); (rw [eYy38, upL_nc (by decide), eYy19, upL_ne (by decide), eYy15, upL_ne (by decide), eYy12, upL_ne (by decide), eYy8, upL_at] at ht); (rw [el7, tb_and, Bool.and_eq_true, el6, tb_shl] at ht); (have h1 := ht.1); (simp only [Bool.and_eq_true, Bool.not_eq_true', decide_eq_false_iff_not, decide_eq_true_eq] at h1); (have e1 : (v5 % 64).toNat = (X.1 10 0).toNat := by omega); (rw [e1] at h1); (exact ⟨by omega, h1.2.2⟩)), (by (have wv3 : v3 = X.1 10 0 := by rw [ev3]); (have wv5 : v5 = X.1 10 0 := by rw [ev5]); (have wv13 : v13 = X.1 10 0 := by rw [ev13, (hFy12 10 0 rfl).1]); (have wv21 : v21 = X.1 10 0 := by rw [ev21, (hFy19 10 0 rfl).1]); (have wv30 : v30 = X.1 10 0 := by rw [ev30, (hFy19 10 0 rfl).1]); (intro j hj ht); (rw [eYy38, upL_nc (by decide), eYy19, upL_ne (by decide), eYy15, upL_ne (by decide), eYy12, upL_at] at ht); (rw [el11, tb_ushr, el10, tb_and, Bool.and_eq_true] at ht); (rw [Nat.add_comm]); (exact ht.1)), (by (have wv3 : v3 = X.1 10 0 := by rw [ev3]); (have wv5 : v5 = X.1 10 0 := by rw [ev5]); (have wv13 : v13 = X.1 10 0 := by rw [ev13, (hFy12 10 0 rfl).1]); (have wv21 : v21 = X.1 10 0 := by rw [ev21, (hFy19 10 0 rfl).1]); (have wv30 : v30 = X.1 10 0 := by rw [ev30, (hFy19 10 0 rfl).1]); (intro j hj ht); (rw [eYy38, upL_nc (by decide), eYy19, upL_ne (by decide), eYy15, upL_at] at ht); (rw [el14, tb_ushr] at ht); (have e1 : (v13 % 64).toNat = (X.1 10 0).toNat := by omega); (rw [e1] at ht); (exact ht)), (by (have wv3 : v3 = X.1 10 0 := by rw [ev3]); (have wv5 : v5 = X.1 10 0 := by rw [ev5]); (have wv13 : v13 = X.1 10 0 := by rw [ev13, (hFy12 10 0 rfl).1]); (have wv21 : v21 = X.1 10 0 := by rw [ev21, (hFy19 10 0 rfl).1]); (have wv30 : v30 = X.1 10 0 := by rw [ev30, (hFy19 10 0 rfl).1]); (intro j hj ht); (rw [eYy38, upL_nc (by decide), eYy19, upL_at] at ht); (rw [el18, tb_shl, el17, tb_and] at ht); (simp only [Bool.and_eq_true, Bool.not_eq_true', decide_eq_false_iff_not, decide_eq_true_eq] at ht); (have h1 := ht.2); (exact ⟨by have := h1.1; have e1 : ((1 : Int) % 64).toNat = 1 := rfl; omega, h1.2.1⟩))⟩)
    · refine x_lload C dX3_layNeighbours_15 rfl ?_
      refine x_iload C dX3_layNeighbours_17 rfl ?_
      refine x_aload_n (i := 1) C dX3_layNeighbours_19 rfl rfl ?_
      refine x_getI C fkX_X3_19 (nlt rfl) rfl dX3_layNeighbours_20 ?_
      refine x_gen (fun v39 ev39 => ?_)
      have qv39 : (0 : Int) ≤ v39 ∧ v39 ≤ (6 : Int) := by
        rw [ev39]
        exact hH.rF (k := 10) (i := 0) rfl rfl
      refine x_imul C dX3_layNeighbours_23 ?_
      refine x_callSN (As := [.int (iI (i * v39))]) C (by exact (xf_bit (f := i * v39))) cnX3_28 rfl rfl (nle rfl) (by exact ⟨nle rfl, nle rfl⟩) dX3_layNeighbours_24 ?_
      rintro _ Xl40 ⟨hxl40, rfl⟩
      rw [hxl40]
      refine Wx_st (st' := [.long ((1 : Int64) <<< ((iI (i * v39)).toInt64 &&& 63)), .long (we)]) rfl ?_
      refine x_genL (fun l40 el40 => ?_)
      refine Wx_st (st' := [.long (l40), .long (we)]) rfl ?_
      refine x_lor C dX3_layNeighbours_27 ?_
      refine x_genL (fun l41 el41 => ?_)
      refine x_lstore (lv' := [(6, .long (l41)), (8, .int (iI (i))), (0, .ref 56), (1, .ref 10), (2, .long (all)), (4, .long (op))]) C dX3_layNeighbours_28 (nlt rfl) rfl ?_
      refine x_iinc (lv' := [(8, .int (iI (i + 1))), (6, .long (l41)), (0, .ref 56), (1, .ref 10), (2, .long (all)), (4, .long (op))]) C dX3_layNeighbours_30 rfl (nlt rfl) rfl ?_
      refine x_goto (tgt := 6) C dX3_layNeighbours_33 (by decide) ?_
      refine Wx_pick [8, 6, 0, 1, 2, 4] ?_
      refine Wx_lv (lv' := [(8, .int (iI (i + 1))), (6, .long (l41)), (0, .ref 56), (1, .ref 10), (2, .long (all)), (4, .long (op))]) rfl ?_
      exact ih _ _ (by omega) (by omega) (by omega)
set_option maxHeartbeats 4000000 in
set_option maxRecDepth 100000 in
theorem xf_layN56_10 {D : va_G} {ad : Nat → Nat} {cA : Nat → ClassId} {X : XT} {all op : Int64} (hH : HG vX X) (hF : FR mdLN56 X X) : MetX (wX D ad cA) yX3_layNeighbours cX3_layNeighbours 10 none 1 20 [.ref 56, .ref 10, .long (all), .long (op)] X (fun r X1 => r = none ∧ HG vX X1 ∧ FR mdLN56 X X1 ∧ (∀ j, j < 64 → tb (X1.2.1 57 0) j = true → (X.1 10 0 ≤ (j : Int) ∧ tb op (j - (X.1 10 0).toNat) = true)) ∧ (∀ j, j < 64 → tb (X1.2.1 57 1) j = true → tb op (j + 1) = true) ∧ (∀ j, j < 64 → tb (X1.2.1 57 2) j = true → tb op ((X.1 10 0).toNat + j) = true) ∧ (∀ j, j < 64 → tb (X1.2.1 57 3) j = true → (1 ≤ (j : Int) ∧ tb op (j - 1) = true))) := by
  refine MetX.mk (own := RX3) (by decide +kernel) rfl (nle rfl) (fun E C hQ => ?_)
  refine Wx_lv (lv' := [(0, .ref 56), (1, .ref 10), (2, .long (all)), (4, .long (op))]) rfl ?_
  refine x_lconst C dX3_layNeighbours_0 ?_
  refine x_eqL (b := 0) rfl ?_
  refine x_lstore (lv' := [(6, .long (0)), (0, .ref 56), (1, .ref 10), (2, .long (all)), (4, .long (op))]) C dX3_layNeighbours_1 (nlt rfl) rfl ?_
  refine x_iconst C dX3_layNeighbours_3 ?_
  refine x_istore (lv' := [(8, .int (iI (0))), (6, .long (0)), (0, .ref 56), (1, .ref 10), (2, .long (all)), (4, .long (op))]) C dX3_layNeighbours_4 (nlt rfl) rfl ?_
  refine Wx_pick [8, 6, 0, 1, 2, 4] ?_
  refine Wx_lv (lv' := [(8, .int (iI (0))), (6, .long (0)), (0, .ref 56), (1, .ref 10), (2, .long (all)), (4, .long (op))]) rfl ?_
  exact xl_layN56_10 hH hF C hQ 7 0 0 (by omega) (by omega) (by omega)
set_option maxHeartbeats 4000000 in
set_option maxRecDepth 100000 in
theorem xl_lay56_10_12 {D : va_G} {ad : Nat → Nat} {cA : Nat → ClassId} {X0 : XT} {all : Int64} {sd mn : Int} (ss : inR sd) (mm : inR mn) {E : ET} (C : CX E (wX D ad cA) cX3_lay 10 RX3 none { frames := 2, cells := 0, slots := 0, locals := 49 }) (hQ : EQ E (wX D ad cA) (fun r X1 => r = none ∧ HG vX X1 ∧ FR (cMd k_X_155) X0 X1 ∧ GOKP 57 58 X1)) : ∀ (n : Nat) (i : Int) (o : Int64) (X : XT), 6 - i < n → 0 ≤ i → i ≤ 6 → m36 o → HG vX X → FR (cMd k_X_155) X0 X → Wx E (wX D ad cA) 10 (PX (wX D ad cA) X) 37 [(9, .int (iI (i))), (7, .long (o)), (0, .ref 56), (1, .ref 10), (2, .ref 12), (3, .int (iI (sd))), (4, .int (iI (mn))), (5, .long (all))] [] := by
  intro n
  induction n with
  | zero => intro i o X hn i0 i1 om hH hF; exfalso; omega
  | succ n ih =>
    intro i o X hn i0 i1 om hH hF
    unfold inR at ss mm
    refine x_iload C dX3_lay_37 rfl ?_
    refine x_aload_n (i := 1) C dX3_lay_39 rfl rfl ?_
    refine x_getI C fkX_X3_41 (nlt rfl) rfl dX3_lay_40 ?_
    refine x_gen (fun v1 ev1 => ?_)
    have qv1 : (0 : Int) ≤ v1 ∧ v1 ≤ (6 : Int) := by
      rw [ev1]
      exact hH.rF (k := 10) (i := 4) rfl rfl
    refine x_icmp_ge (tgt := 113) C dX3_lay_43 (by decide) ⟨by omega, by omega⟩ ⟨by omega, by omega⟩ (fun h2 => ?_) (fun h2 => ?_)
    · refine x_aload_n (i := 0) C dX3_lay_113 rfl rfl ?_
      refine x_aload_n (i := 0) C dX3_lay_114 rfl rfl ?_
      refine x_getL C fkX_X3_38 (nlt rfl) rfl dX3_lay_115 ?_
      refine x_genL (fun l3 el3 => ?_)
      refine x_aload_n (i := 1) C dX3_lay_118 rfl rfl ?_
      refine x_getL C fkX_X3_47 (nlt rfl) rfl dX3_lay_119 ?_
      refine x_genL (fun l4 el4 => ?_)
      refine x_lor C dX3_lay_122 ?_
      refine x_genL (fun l5 el5 => ?_)
      refine x_putL C pkX_X3_50 (nlt rfl) rfl dX3_lay_123 ?_
      refine x_gX (fun Yy6 eYy6 => ?_)
      have hHy6 : HG vX Yy6 := by
        rw [eYy6]
        exact hg_wLF hH (p := ((-9223372036854775808), 9223372036854775807)) rfl (l64 _)
      have hFy6 : FR (cMd k_X_155) X0 Yy6 := by
        rw [eYy6]
        exact FR.upL hF (rfl)
      replace eYy6 : Yy6 = upL X 56 4 (l5) := eYy6
      refine x_aload_n (i := 0) C dX3_lay_126 rfl rfl ?_
      refine x_getRs (r := 58) C fkX_X3_15 (nlt rfl) rfl (HG.rR hHy6 (k := 56) (i := 1) rfl rfl) dX3_lay_127 ?_
      refine x_iconst C dX3_lay_130 ?_
      refine x_aload_n (i := 1) C dX3_lay_131 rfl rfl ?_
      refine x_getI C fkX_X3_19 (nlt rfl) rfl dX3_lay_132 ?_
      refine x_gen (fun v7 ev7 => ?_)
      have qv7 : (0 : Int) ≤ v7 ∧ v7 ≤ (6 : Int) := by
        rw [ev7]
        exact hHy6.rF (k := 10) (i := 0) rfl rfl
      have wv7 : v7 = X0.1 10 0 := by rw [ev7, (hFy6 10 0 rfl).1]
      refine x_ineg C dX3_lay_135 ?_
      refine x_iast C (nlt rfl) rfl rfl (nle rfl) (by omega) (by omega) dX3_lay_136 ?_
      refine x_gX (fun Yy8 eYy8 => ?_)
      have hHy8 : HG vX Yy8 := by
        rw [eYy8]
        exact hg_wA hHy6 (n := 4) (p := ((-6), 6)) (by decide +kernel) (by omega) ⟨by omega, by omega⟩
      have hFy8 : FR (cMd k_X_155) X0 Yy8 := by
        rw [eYy8]
        exact FR.upI hFy6 (rfl)
      replace eYy8 : Yy8 = upI Yy6 58 0 (-v7) := eYy8
      refine x_aload_n (i := 0) C dX3_lay_137 rfl rfl ?_
      refine x_getRs (r := 58) C fkX_X3_15 (nlt rfl) rfl (HG.rR hHy8 (k := 56) (i := 1) rfl rfl) dX3_lay_138 ?_
      refine x_iconst C dX3_lay_141 ?_
      refine x_iconst C dX3_lay_142 ?_
      refine x_iast C (nlt rfl) rfl rfl (nle rfl) (by omega) (by omega) dX3_lay_143 ?_
      refine x_gX (fun Yy9 eYy9 => ?_)
      have hHy9 : HG vX Yy9 := by
        rw [eYy9]
        exact hg_wA hHy8 (n := 4) (p := ((-6), 6)) (by decide +kernel) (by omega) ⟨by omega, by omega⟩
      have hFy9 : FR (cMd k_X_155) X0 Yy9 := by
        rw [eYy9]
        exact FR.upI hFy8 (rfl)
      replace eYy9 : Yy9 = upI Yy8 58 1 (1) := eYy9
      refine x_aload_n (i := 0) C dX3_lay_144 rfl rfl ?_
      refine x_getRs (r := 58) C fkX_X3_15 (nlt rfl) rfl (HG.rR hHy9 (k := 56) (i := 1) rfl rfl) dX3_lay_145 ?_
      refine x_iconst C dX3_lay_148 ?_
      refine x_aload_n (i := 1) C dX3_lay_149 rfl rfl ?_
      refine x_getI C fkX_X3_19 (nlt rfl) rfl dX3_lay_150 ?_
      refine x_gen (fun v10 ev10 => ?_)
      have qv10 : (0 : Int) ≤ v10 ∧ v10 ≤ (6 : Int) := by
        rw [ev10]
        exact hHy9.rF (k := 10) (i := 0) rfl rfl
      have wv10 : v10 = X0.1 10 0 := by rw [ev10, (hFy9 10 0 rfl).1]
      refine x_iast C (nlt rfl) rfl rfl (nle rfl) (by omega) (by omega) dX3_lay_153 ?_
      refine x_gX (fun Yy11 eYy11 => ?_)
      have hHy11 : HG vX Yy11 := by
        rw [eYy11]
        exact hg_wA hHy9 (n := 4) (p := ((-6), 6)) (by decide +kernel) (by omega) ⟨by omega, by omega⟩
      have hFy11 : FR (cMd k_X_155) X0 Yy11 := by
        rw [eYy11]
        exact FR.upI hFy9 (rfl)
      replace eYy11 : Yy11 = upI Yy9 58 2 (v10) := eYy11
      refine x_aload_n (i := 0) C dX3_lay_154 rfl rfl ?_
      refine x_getRs (r := 58) C fkX_X3_15 (nlt rfl) rfl (HG.rR hHy11 (k := 56) (i := 1) rfl rfl) dX3_lay_155 ?_
      refine x_iconst C dX3_lay_158 ?_
      refine x_iconst C dX3_lay_159 ?_
      refine x_iast C (nlt rfl) rfl rfl (nle rfl) (by omega) (by omega) dX3_lay_160 ?_
      refine x_gX (fun Yy12 eYy12 => ?_)
      have hHy12 : HG vX Yy12 := by
        rw [eYy12]
        exact hg_wA hHy11 (n := 4) (p := ((-6), 6)) (by decide +kernel) (by omega) ⟨by omega, by omega⟩
      have hFy12 : FR (cMd k_X_155) X0 Yy12 := by
        rw [eYy12]
        exact FR.upI hFy11 (rfl)
      replace eYy12 : Yy12 = upI Yy11 58 3 ((-1)) := eYy12
      refine x_aload_n (i := 0) C dX3_lay_161 rfl rfl ?_
      refine x_aload_n (i := 1) C dX3_lay_162 rfl rfl ?_
      refine x_lload C dX3_lay_163 rfl ?_
      refine x_lload C dX3_lay_165 rfl ?_
      refine x_callV (As := [.ref 10, .long (all), .long (o)]) C (by exact (xf_layN56_10 (all := all) (op := o) hHy12 FR.rf)) ckX3_53 im_X3_layNeighbours se_X3_layNeighbours (nlt rfl) rfl rfl rfl rfl (nle rfl) (by exact ⟨nle rfl, nle rfl⟩) dX3_lay_167 ?_
      rintro _ Yy13 ⟨rfl, hHy13, hGy13, P0y13, P1y13, P2y13, P3y13⟩
      have hFy13 : FR (cMd k_X_155) X0 Yy13 := FR.tr hFy12 hGy13 (by decide)
      refine Wx_st (st' := []) rfl ?_
      exact x_vret C hQ dX3_lay_170 (⟨rfl, hHy13, hFy13, by (intro s hs j hj ht); (have lt : ∀ i, tb o i = true → i < 36 := fun i hi => by (by_cases q : i < 36); (exact q); (rw [m36_iff.mp om i (by omega)] at hi; cases hi)); (rcases (show s = 0 ∨ s = 1 ∨ s = 2 ∨ s = 3 by omega) with rfl | rfl | rfl | rfl); ((have p := P0y13 j hj ht); (have := lt _ p.2); (rw [(hGy13 58 0 rfl).1, eYy12, upI_ne (by decide), eYy11, upI_ne (by decide), eYy9, upI_ne (by decide), eYy8, upI_at]); (have p1 := p.1); (have wq := (show Yy12.1 10 0 = v10 by rw [(hFy12 10 0 rfl).1, wv10])); (rw [wq] at this p1); (omega)); ((have := lt _ (P1y13 j hj ht)); (rw [(hGy13 58 1 rfl).1, eYy12, upI_ne (by decide), eYy11, upI_ne (by decide), eYy9, upI_at]); (omega)); ((have := lt _ (P2y13 j hj ht)); (rw [(hGy13 58 2 rfl).1, eYy12, upI_ne (by decide), eYy11, upI_at]); (have wq := (show Yy12.1 10 0 = v10 by rw [(hFy12 10 0 rfl).1, wv10])); (rw [wq] at this); (omega)); ((have p := P3y13 j hj ht); (have := lt _ p.2); (rw [(hGy13 58 3 rfl).1, eYy12, upI_at]); (have p1 := p.1); (omega))⟩)
    · refine x_iload C dX3_lay_46 rfl ?_
      refine x_iload C dX3_lay_48 rfl ?_
      refine x_icmp_eq (tgt := 107) C dX3_lay_50 (by decide) ⟨by omega, by omega⟩ ⟨by omega, by omega⟩ (fun h14 => ?_) (fun h14 => ?_)
      · refine x_iinc (lv' := [(9, .int (iI (i + 1))), (7, .long (o)), (0, .ref 56), (1, .ref 10), (2, .ref 12), (3, .int (iI (sd))), (4, .int (iI (mn))), (5, .long (all))]) C dX3_lay_107 rfl (nlt rfl) rfl ?_
        refine x_goto (tgt := 37) C dX3_lay_110 (by decide) ?_
        refine Wx_pick [9, 7, 0, 1, 2, 3, 4, 5] ?_
        refine Wx_lv (lv' := [(9, .int (iI (i + 1))), (7, .long (o)), (0, .ref 56), (1, .ref 10), (2, .ref 12), (3, .int (iI (sd))), (4, .int (iI (mn))), (5, .long (all))]) rfl ?_
        exact ih _ _ _ (by omega) (by omega) (by omega) om hH hF
      · refine x_aload_n (i := 2) C dX3_lay_53 rfl rfl ?_
        refine x_iload C dX3_lay_54 rfl ?_
        refine x_iald C (nlt rfl) rfl rfl (nle rfl) (by omega) (by omega) dX3_lay_56 ?_
        refine x_gen (fun v15 ev15 => ?_)
        have qv15 : ((-2147483648) : Int) ≤ v15 ∧ v15 ≤ (2147483647 : Int) := by
          rw [ev15]
          exact hH.rA (k := 12) (n := 6) (p := ((-2147483648), 2147483647)) (nlt rfl) rfl (by decide +kernel) (by omega)
        refine x_iconst C dX3_lay_57 ?_
        refine x_icmp_eq (tgt := 107) C dX3_lay_58 (by decide) ⟨by omega, by omega⟩ ⟨by omega, by omega⟩ (fun h16 => ?_) (fun h16 => ?_)
        · refine x_iinc (lv' := [(9, .int (iI (i + 1))), (7, .long (o)), (0, .ref 56), (1, .ref 10), (2, .ref 12), (3, .int (iI (sd))), (4, .int (iI (mn))), (5, .long (all))]) C dX3_lay_107 rfl (nlt rfl) rfl ?_
          refine x_goto (tgt := 37) C dX3_lay_110 (by decide) ?_
          refine Wx_pick [9, 7, 0, 1, 2, 3, 4, 5] ?_
          refine Wx_lv (lv' := [(9, .int (iI (i + 1))), (7, .long (o)), (0, .ref 56), (1, .ref 10), (2, .ref 12), (3, .int (iI (sd))), (4, .int (iI (mn))), (5, .long (all))]) rfl ?_
          exact ih _ _ _ (by omega) (by omega) (by omega) om hH hF
        · refine x_aload_n (i := 1) C dX3_lay_61 rfl rfl ?_
          refine x_getRs (r := 11) C fkX_X3_44 (nlt rfl) rfl (HG.rR hH (k := 10) (i := 5) rfl rfl) dX3_lay_62 ?_
          refine x_iload C dX3_lay_65 rfl ?_
          refine x_iald C (nlt rfl) rfl rfl (nle rfl) (by omega) (by omega) dX3_lay_67 ?_
          refine x_gen (fun v17 ev17 => ?_)
          have qv17 : ((-2147483648) : Int) ≤ v17 ∧ v17 ≤ (2147483647 : Int) := by
            rw [ev17]
            exact hH.rA (k := 11) (n := 6) (p := ((-2147483648), 2147483647)) (nlt rfl) rfl (by decide +kernel) (by omega)
          refine x_iload_n (i := 3) C dX3_lay_68 rfl rfl ?_
          refine x_icmp_ne (tgt := 91) C dX3_lay_69 (by decide) ⟨by omega, by omega⟩ ⟨by omega, by omega⟩ (fun h18 => ?_) (fun h18 => ?_)
          · refine x_aload_n (i := 0) C dX3_lay_91 rfl rfl ?_
            refine x_dup C dX3_lay_92 rfl ?_
            refine x_getL C fkX_X3_38 (nlt rfl) rfl dX3_lay_93 ?_
            refine x_genL (fun l19 el19 => ?_)
            refine x_aload_n (i := 2) C dX3_lay_96 rfl rfl ?_
            refine x_iload C dX3_lay_97 rfl ?_
            refine x_iald C (nlt rfl) rfl rfl (nle rfl) (by omega) (by omega) dX3_lay_99 ?_
            refine x_gen (fun v20 ev20 => ?_)
            have qv20 : ((-2147483648) : Int) ≤ v20 ∧ v20 ≤ (2147483647 : Int) := by
              rw [ev20]
              exact hH.rA (k := 12) (n := 6) (p := ((-2147483648), 2147483647)) (nlt rfl) rfl (by decide +kernel) (by omega)
            refine x_callSN (As := [.int (iI (v20))]) C (by exact (xf_bit (f := v20))) cnX3_28 rfl rfl (nle rfl) (by exact ⟨nle rfl, nle rfl⟩) dX3_lay_100 ?_
            rintro _ Xl21 ⟨hxl21, rfl⟩
            rw [hxl21]
            refine Wx_st (st' := [.long ((1 : Int64) <<< ((iI (v20)).toInt64 &&& 63)), .long (l19), .ref 56]) rfl ?_
            refine x_genL (fun l21 el21 => ?_)
            refine Wx_st (st' := [.long (l21), .long (l19), .ref 56]) rfl ?_
            refine x_lor C dX3_lay_103 ?_
            refine x_genL (fun l22 el22 => ?_)
            refine x_putL C pkX_X3_38 (nlt rfl) rfl dX3_lay_104 ?_
            refine x_gX (fun Yy23 eYy23 => ?_)
            have hHy23 : HG vX Yy23 := by
              rw [eYy23]
              exact hg_wLF hH (p := ((-9223372036854775808), 9223372036854775807)) rfl (l64 _)
            have hFy23 : FR (cMd k_X_155) X0 Yy23 := by
              rw [eYy23]
              exact FR.upL hF (rfl)
            replace eYy23 : Yy23 = upL X 56 2 (l22) := eYy23
            refine x_iinc (lv' := [(9, .int (iI (i + 1))), (7, .long (o)), (0, .ref 56), (1, .ref 10), (2, .ref 12), (3, .int (iI (sd))), (4, .int (iI (mn))), (5, .long (all))]) C dX3_lay_107 rfl (nlt rfl) rfl ?_
            refine x_goto (tgt := 37) C dX3_lay_110 (by decide) ?_
            refine Wx_pick [9, 7, 0, 1, 2, 3, 4, 5] ?_
            refine Wx_lv (lv' := [(9, .int (iI (i + 1))), (7, .long (o)), (0, .ref 56), (1, .ref 10), (2, .ref 12), (3, .int (iI (sd))), (4, .int (iI (mn))), (5, .long (all))]) rfl ?_
            exact ih _ _ _ (by omega) (by omega) (by omega) om hHy23 hFy23
          · refine x_lload C dX3_lay_72 rfl ?_
            refine x_aload_n (i := 2) C dX3_lay_74 rfl rfl ?_
            refine x_iload C dX3_lay_75 rfl ?_
            refine x_iald C (nlt rfl) rfl rfl (nle rfl) (by omega) (by omega) dX3_lay_77 ?_
            refine x_gen (fun v24 ev24 => ?_)
            have qv24 : ((-2147483648) : Int) ≤ v24 ∧ v24 ≤ (2147483647 : Int) := by
              rw [ev24]
              exact hH.rA (k := 12) (n := 6) (p := ((-2147483648), 2147483647)) (nlt rfl) rfl (by decide +kernel) (by omega)
            refine x_callSN (As := [.int (iI (v24))]) C (by exact (xf_bit (f := v24))) cnX3_28 rfl rfl (nle rfl) (by exact ⟨nle rfl, nle rfl⟩) dX3_lay_78 ?_
            rintro _ Xl25 ⟨hxl25, rfl⟩
            rw [hxl25]
            refine Wx_st (st' := [.long ((1 : Int64) <<< ((iI (v24)).toInt64 &&& 63)), .long (o)]) rfl ?_
            refine x_genL (fun l25 el25 => ?_)
            refine Wx_st (st' := [.long (l25), .long (o)]) rfl ?_
            refine x_ldc2 C dX3_lay_81 cnX3_36 ?_
            refine x_lxor C dX3_lay_84 ?_
            refine x_genL (fun l26 el26 => ?_)
            refine x_land C dX3_lay_85 ?_
            refine x_genL (fun l27 el27 => ?_)
            refine x_lstore (lv' := [(7, .long (l27)), (9, .int (iI (i))), (0, .ref 56), (1, .ref 10), (2, .ref 12), (3, .int (iI (sd))), (4, .int (iI (mn))), (5, .long (all))]) C dX3_lay_86 (nlt rfl) rfl ?_
            refine x_goto (tgt := 107) C dX3_lay_88 (by decide) ?_
            refine x_iinc (lv' := [(9, .int (iI (i + 1))), (7, .long (l27)), (0, .ref 56), (1, .ref 10), (2, .ref 12), (3, .int (iI (sd))), (4, .int (iI (mn))), (5, .long (all))]) C dX3_lay_107 rfl (nlt rfl) rfl ?_
            refine x_goto (tgt := 37) C dX3_lay_110 (by decide) ?_
            refine Wx_pick [9, 7, 0, 1, 2, 3, 4, 5] ?_
            refine Wx_lv (lv' := [(9, .int (iI (i + 1))), (7, .long (l27)), (0, .ref 56), (1, .ref 10), (2, .ref 12), (3, .int (iI (sd))), (4, .int (iI (mn))), (5, .long (all))]) rfl ?_
            exact ih _ _ _ (by omega) (by omega) (by omega) (by rw [el27]; exact m36_and om) hH hF
set_option maxHeartbeats 4000000 in
set_option maxRecDepth 100000 in
theorem xf_lay56_10_12 {D : va_G} {ad : Nat → Nat} {cA : Nat → ClassId} {X0 : XT} {sd mn : Int} (ss : inR sd) (mm : inR mn) (hH : HG vX X0) (hF : FR (cMd k_X_155) X0 X0) : MetX (wX D ad cA) yX3_lay cX3_lay 10 none 2 49 [.ref 56, .ref 10, .ref 12, .int (iI (sd)), .int (iI (mn))] X0 (fun r X1 => r = none ∧ HG vX X1 ∧ FR (cMd k_X_155) X0 X1 ∧ GOKP 57 58 X1) := by
  have ss' := ss
  have mm' := mm
  unfold inR at ss' mm'
  refine MetX.mk (own := RX3) (by decide +kernel) rfl (nle rfl) (fun E C hQ => ?_)
  refine Wx_lv (lv' := [(0, .ref 56), (1, .ref 10), (2, .ref 12), (3, .int (iI (sd))), (4, .int (iI (mn)))]) rfl ?_
  refine x_aload_n (i := 1) C dX3_lay_0 rfl rfl ?_
  refine x_getI C fkX_X3_19 (nlt rfl) rfl dX3_lay_1 ?_
  refine x_gen (fun v1 ev1 => ?_)
  have qv1 : (0 : Int) ≤ v1 ∧ v1 ≤ (6 : Int) := by
    rw [ev1]
    exact hH.rF (k := 10) (i := 0) rfl rfl
  refine x_aload_n (i := 1) C dX3_lay_4 rfl rfl ?_
  refine x_getI C fkX_X3_25 (nlt rfl) rfl dX3_lay_5 ?_
  refine x_gen (fun v2 ev2 => ?_)
  have qv2 : (0 : Int) ≤ v2 ∧ v2 ≤ (6 : Int) := by
    rw [ev2]
    exact hH.rF (k := 10) (i := 1) rfl rfl
  refine x_imul C dX3_lay_8 ?_
  refine x_callSN (As := [.int (iI (v1 * v2))]) C (by exact (xf_bit (f := v1 * v2))) cnX3_28 rfl rfl (nle rfl) (by exact ⟨nle rfl, nle rfl⟩) dX3_lay_9 ?_
  rintro _ Xl3 ⟨hxl3, rfl⟩
  rw [hxl3]
  refine Wx_st (st' := [.long ((1 : Int64) <<< ((iI (v1 * v2)).toInt64 &&& 63))]) rfl ?_
  refine x_genL (fun l3 el3 => ?_)
  refine Wx_st (st' := [.long (l3)]) rfl ?_
  refine x_lconst C dX3_lay_12 ?_
  refine x_eqL (b := 1) rfl ?_
  refine x_lsub C dX3_lay_13 ?_
  refine x_genL (fun l4 el4 => ?_)
  refine x_lstore (lv' := [(5, .long (l4)), (0, .ref 56), (1, .ref 10), (2, .ref 12), (3, .int (iI (sd))), (4, .int (iI (mn)))]) C dX3_lay_14 (nlt rfl) rfl ?_
  refine x_lload C dX3_lay_16 rfl ?_
  refine x_aload_n (i := 1) C dX3_lay_18 rfl rfl ?_
  refine x_getL C fkX_X3_32 (nlt rfl) rfl dX3_lay_19 ?_
  refine x_genL (fun l5 el5 => ?_)
  refine x_ldc2 C dX3_lay_22 cnX3_36 ?_
  refine x_lxor C dX3_lay_25 ?_
  refine x_genL (fun l6 el6 => ?_)
  refine x_land C dX3_lay_26 ?_
  refine x_genL (fun l7 el7 => ?_)
  refine x_lstore (lv' := [(7, .long (l7)), (5, .long (l4)), (0, .ref 56), (1, .ref 10), (2, .ref 12), (3, .int (iI (sd))), (4, .int (iI (mn)))]) C dX3_lay_27 (nlt rfl) rfl ?_
  refine x_aload_n (i := 0) C dX3_lay_29 rfl rfl ?_
  refine x_lconst C dX3_lay_30 ?_
  refine x_eqL (b := 0) rfl ?_
  refine x_putL C pkX_X3_38 (nlt rfl) rfl dX3_lay_31 ?_
  refine x_gX (fun Yy8 eYy8 => ?_)
  have hHy8 : HG vX Yy8 := by
    rw [eYy8]
    exact hg_wLF hH (p := ((-9223372036854775808), 9223372036854775807)) rfl (l64 _)
  have hFy8 : FR (cMd k_X_155) X0 Yy8 := by
    rw [eYy8]
    exact FR.upL hF (rfl)
  replace eYy8 : Yy8 = upL X0 56 2 (0) := eYy8
  refine x_iconst C dX3_lay_34 ?_
  refine x_istore (lv' := [(9, .int (iI (0))), (7, .long (l7)), (5, .long (l4)), (0, .ref 56), (1, .ref 10), (2, .ref 12), (3, .int (iI (sd))), (4, .int (iI (mn)))]) C dX3_lay_35 (nlt rfl) rfl ?_
  refine Wx_pick [9, 7, 0, 1, 2, 3, 4, 5] ?_
  refine Wx_lv (lv' := [(9, .int (iI (0))), (7, .long (l7)), (0, .ref 56), (1, .ref 10), (2, .ref 12), (3, .int (iI (sd))), (4, .int (iI (mn))), (5, .long (l4))]) rfl ?_
  exact xl_lay56_10_12 ss mm C hQ 7 0 _ _ (by omega) (by omega) (by omega) (by rw [el7]; exact m36_and (by rw [el4, el3]; exact m36_all (wh_36 (by omega) (by omega) (by omega) (by omega)))) hHy8 hFy8
set_option maxRecDepth 10000 in
theorem t_X_155 {D : va_G} {ad : Nat → Nat} {cA : Nat → ClassId} : CTR mtX vX gX (wX D ad cA) k_X_155 := by
  intro g X hpre
  obtain ⟨h00, hei, hel, hdl, hH, hE⟩ := hpre
  have h0 : (0 : Int) ≤ g.1 0 ∧ g.1 0 ≤ (0 : Int) := hei 0 _ rfl
  have h1 : ((-2147483648) : Int) ≤ g.1 1 ∧ g.1 1 ≤ (2147483647 : Int) := hei 1 _ rfl
  have h2 : ((-2147483648) : Int) ≤ g.1 2 ∧ g.1 2 ≤ (2147483647 : Int) := hei 2 _ rfl
  refine MetX.imp (fun r X1 hp => ?_) (xf_lay56_10_12 (X0 := X) (sd := g.1 1 + 0) (mn := g.1 2 + 0) ⟨by omega, by omega⟩ ⟨by omega, by omega⟩ hH FR.rf)
  obtain ⟨rfl, hH1, hF1, hG1⟩ := hp
  have e1 := gokX_1 hG1
  exact (altM_mk 0 [1] rfl (ei_cons ⟨by show (0 : Int) ≤ g.1 0; omega, by show g.1 0 ≤ (0 : Int); omega⟩ (ei_cons ⟨by show ((-2147483648) : Int) ≤ g.1 1; omega, by show g.1 1 ≤ (2147483647 : Int); omega⟩ (ei_cons ⟨by show ((-2147483648) : Int) ≤ g.1 2; omega, by show g.1 2 ≤ (2147483647 : Int); omega⟩ (ei_cons ⟨by show (1 : Int) ≤ 1; omega, by show 1 ≤ (1 : Int); omega⟩ ei_nil)))) el_nil (by rfl) (dl_cons (gh_mk rfl (by show gokX 57 58 X1 = (1 : Int) + 0; omega)) dl_nil) gd_nil hH1 (wdX.2.1 X X1 (fun k i hp => hF1 k i (nprX (md := cMd k_X_155) (by decide +kernel) hp)) hE) hF1)
set_option maxHeartbeats 4000000 in
set_option maxRecDepth 100000 in
theorem xl_lay56_7_102 {D : va_G} {ad : Nat → Nat} {cA : Nat → ClassId} {X0 : XT} {all : Int64} {sd mn : Int} (ss : inR sd) (mm : inR mn) {E : ET} (C : CX E (wX D ad cA) cX3_lay 10 RX3 none { frames := 2, cells := 0, slots := 0, locals := 49 }) (hQ : EQ E (wX D ad cA) (fun r X1 => r = none ∧ HG vX X1 ∧ FR (cMd k_X_220) X0 X1 ∧ GOKP 57 58 X1)) : ∀ (n : Nat) (i : Int) (o : Int64) (X : XT), 6 - i < n → 0 ≤ i → i ≤ 6 → m36 o → HG vX X → FR (cMd k_X_220) X0 X → Wx E (wX D ad cA) 10 (PX (wX D ad cA) X) 37 [(9, .int (iI (i))), (7, .long (o)), (0, .ref 56), (1, .ref 7), (2, .ref 102), (3, .int (iI (sd))), (4, .int (iI (mn))), (5, .long (all))] [] := by
  intro n
  induction n with
  | zero => intro i o X hn i0 i1 om hH hF; exfalso; omega
  | succ n ih =>
    intro i o X hn i0 i1 om hH hF
    unfold inR at ss mm
    refine x_iload C dX3_lay_37 rfl ?_
    refine x_aload_n (i := 1) C dX3_lay_39 rfl rfl ?_
    refine x_getI C fkX_X3_41 (nlt rfl) rfl dX3_lay_40 ?_
    refine x_gen (fun v1 ev1 => ?_)
    have qv1 : (0 : Int) ≤ v1 ∧ v1 ≤ (6 : Int) := by
      rw [ev1]
      exact hH.rF (k := 7) (i := 4) rfl rfl
    refine x_icmp_ge (tgt := 113) C dX3_lay_43 (by decide) ⟨by omega, by omega⟩ ⟨by omega, by omega⟩ (fun h2 => ?_) (fun h2 => ?_)
    · refine x_aload_n (i := 0) C dX3_lay_113 rfl rfl ?_
      refine x_aload_n (i := 0) C dX3_lay_114 rfl rfl ?_
      refine x_getL C fkX_X3_38 (nlt rfl) rfl dX3_lay_115 ?_
      refine x_genL (fun l3 el3 => ?_)
      refine x_aload_n (i := 1) C dX3_lay_118 rfl rfl ?_
      refine x_getL C fkX_X3_47 (nlt rfl) rfl dX3_lay_119 ?_
      refine x_genL (fun l4 el4 => ?_)
      refine x_lor C dX3_lay_122 ?_
      refine x_genL (fun l5 el5 => ?_)
      refine x_putL C pkX_X3_50 (nlt rfl) rfl dX3_lay_123 ?_
      refine x_gX (fun Yy6 eYy6 => ?_)
      have hHy6 : HG vX Yy6 := by
        rw [eYy6]
        exact hg_wLF hH (p := ((-9223372036854775808), 9223372036854775807)) rfl (l64 _)
      have hFy6 : FR (cMd k_X_220) X0 Yy6 := by
        rw [eYy6]
        exact FR.upL hF (rfl)
      replace eYy6 : Yy6 = upL X 56 4 (l5) := eYy6
      refine x_aload_n (i := 0) C dX3_lay_126 rfl rfl ?_
      refine x_getRs (r := 58) C fkX_X3_15 (nlt rfl) rfl (HG.rR hHy6 (k := 56) (i := 1) rfl rfl) dX3_lay_127 ?_
      refine x_iconst C dX3_lay_130 ?_
      refine x_aload_n (i := 1) C dX3_lay_131 rfl rfl ?_
      refine x_getI C fkX_X3_19 (nlt rfl) rfl dX3_lay_132 ?_
      refine x_gen (fun v7 ev7 => ?_)
      have qv7 : (0 : Int) ≤ v7 ∧ v7 ≤ (6 : Int) := by
        rw [ev7]
        exact hHy6.rF (k := 7) (i := 0) rfl rfl
      have wv7 : v7 = X0.1 7 0 := by rw [ev7, (hFy6 7 0 rfl).1]
      refine x_ineg C dX3_lay_135 ?_
      refine x_iast C (nlt rfl) rfl rfl (nle rfl) (by omega) (by omega) dX3_lay_136 ?_
      refine x_gX (fun Yy8 eYy8 => ?_)
      have hHy8 : HG vX Yy8 := by
        rw [eYy8]
        exact hg_wA hHy6 (n := 4) (p := ((-6), 6)) (by decide +kernel) (by omega) ⟨by omega, by omega⟩
      have hFy8 : FR (cMd k_X_220) X0 Yy8 := by
        rw [eYy8]
        exact FR.upI hFy6 (rfl)
      replace eYy8 : Yy8 = upI Yy6 58 0 (-v7) := eYy8
      refine x_aload_n (i := 0) C dX3_lay_137 rfl rfl ?_
      refine x_getRs (r := 58) C fkX_X3_15 (nlt rfl) rfl (HG.rR hHy8 (k := 56) (i := 1) rfl rfl) dX3_lay_138 ?_
      refine x_iconst C dX3_lay_141 ?_
      refine x_iconst C dX3_lay_142 ?_
      refine x_iast C (nlt rfl) rfl rfl (nle rfl) (by omega) (by omega) dX3_lay_143 ?_
      refine x_gX (fun Yy9 eYy9 => ?_)
      have hHy9 : HG vX Yy9 := by
        rw [eYy9]
        exact hg_wA hHy8 (n := 4) (p := ((-6), 6)) (by decide +kernel) (by omega) ⟨by omega, by omega⟩
      have hFy9 : FR (cMd k_X_220) X0 Yy9 := by
        rw [eYy9]
        exact FR.upI hFy8 (rfl)
      replace eYy9 : Yy9 = upI Yy8 58 1 (1) := eYy9
      refine x_aload_n (i := 0) C dX3_lay_144 rfl rfl ?_
      refine x_getRs (r := 58) C fkX_X3_15 (nlt rfl) rfl (HG.rR hHy9 (k := 56) (i := 1) rfl rfl) dX3_lay_145 ?_
      refine x_iconst C dX3_lay_148 ?_
      refine x_aload_n (i := 1) C dX3_lay_149 rfl rfl ?_
      refine x_getI C fkX_X3_19 (nlt rfl) rfl dX3_lay_150 ?_
      refine x_gen (fun v10 ev10 => ?_)
      have qv10 : (0 : Int) ≤ v10 ∧ v10 ≤ (6 : Int) := by
        rw [ev10]
        exact hHy9.rF (k := 7) (i := 0) rfl rfl
      have wv10 : v10 = X0.1 7 0 := by rw [ev10, (hFy9 7 0 rfl).1]
      refine x_iast C (nlt rfl) rfl rfl (nle rfl) (by omega) (by omega) dX3_lay_153 ?_
      refine x_gX (fun Yy11 eYy11 => ?_)
      have hHy11 : HG vX Yy11 := by
        rw [eYy11]
        exact hg_wA hHy9 (n := 4) (p := ((-6), 6)) (by decide +kernel) (by omega) ⟨by omega, by omega⟩
      have hFy11 : FR (cMd k_X_220) X0 Yy11 := by
        rw [eYy11]
        exact FR.upI hFy9 (rfl)
      replace eYy11 : Yy11 = upI Yy9 58 2 (v10) := eYy11
      refine x_aload_n (i := 0) C dX3_lay_154 rfl rfl ?_
      refine x_getRs (r := 58) C fkX_X3_15 (nlt rfl) rfl (HG.rR hHy11 (k := 56) (i := 1) rfl rfl) dX3_lay_155 ?_
      refine x_iconst C dX3_lay_158 ?_
      refine x_iconst C dX3_lay_159 ?_
      refine x_iast C (nlt rfl) rfl rfl (nle rfl) (by omega) (by omega) dX3_lay_160 ?_
      refine x_gX (fun Yy12 eYy12 => ?_)
      have hHy12 : HG vX Yy12 := by
        rw [eYy12]
        exact hg_wA hHy11 (n := 4) (p := ((-6), 6)) (by decide +kernel) (by omega) ⟨by omega, by omega⟩
      have hFy12 : FR (cMd k_X_220) X0 Yy12 := by
        rw [eYy12]
        exact FR.upI hFy11 (rfl)
      replace eYy12 : Yy12 = upI Yy11 58 3 ((-1)) := eYy12
      refine x_aload_n (i := 0) C dX3_lay_161 rfl rfl ?_
      refine x_aload_n (i := 1) C dX3_lay_162 rfl rfl ?_
      refine x_lload C dX3_lay_163 rfl ?_
      refine x_lload C dX3_lay_165 rfl ?_
      refine x_callV (As := [.ref 7, .long (all), .long (o)]) C (by exact (xf_layN56_7 (all := all) (op := o) hHy12 FR.rf)) ckX3_53 im_X3_layNeighbours se_X3_layNeighbours (nlt rfl) rfl rfl rfl rfl (nle rfl) (by exact ⟨nle rfl, nle rfl⟩) dX3_lay_167 ?_
      rintro _ Yy13 ⟨rfl, hHy13, hGy13, P0y13, P1y13, P2y13, P3y13⟩
      have hFy13 : FR (cMd k_X_220) X0 Yy13 := FR.tr hFy12 hGy13 (by decide)
      refine Wx_st (st' := []) rfl ?_
      exact x_vret C hQ dX3_lay_170 (⟨rfl, hHy13, hFy13, by (intro s hs j hj ht); (have lt : ∀ i, tb o i = true → i < 36 := fun i hi => by (by_cases q : i < 36); (exact q); (rw [m36_iff.mp om i (by omega)] at hi; cases hi)); (rcases (show s = 0 ∨ s = 1 ∨ s = 2 ∨ s = 3 by omega) with rfl | rfl | rfl | rfl); ((have p := P0y13 j hj ht); (have := lt _ p.2); (rw [(hGy13 58 0 rfl).1, eYy12, upI_ne (by decide), eYy11, upI_ne (by decide), eYy9, upI_ne (by decide), eYy8, upI_at]); (have p1 := p.1); (have wq := (show Yy12.1 7 0 = v10 by rw [(hFy12 7 0 rfl).1, wv10])); (rw [wq] at this p1); (omega)); ((have := lt _ (P1y13 j hj ht)); (rw [(hGy13 58 1 rfl).1, eYy12, upI_ne (by decide), eYy11, upI_ne (by decide), eYy9, upI_at]); (omega)); ((have := lt _ (P2y13 j hj ht)); (rw [(hGy13 58 2 rfl).1, eYy12, upI_ne (by decide), eYy11, upI_at]); (have wq := (show Yy12.1 7 0 = v10 by rw [(hFy12 7 0 rfl).1, wv10])); (rw [wq] at this); (omega)); ((have p := P3y13 j hj ht); (have := lt _ p.2); (rw [(hGy13 58 3 rfl).1, eYy12, upI_at]); (have p1 := p.1); (omega))⟩)
    · refine x_iload C dX3_lay_46 rfl ?_
      refine x_iload C dX3_lay_48 rfl ?_
      refine x_icmp_eq (tgt := 107) C dX3_lay_50 (by decide) ⟨by omega, by omega⟩ ⟨by omega, by omega⟩ (fun h14 => ?_) (fun h14 => ?_)
      · refine x_iinc (lv' := [(9, .int (iI (i + 1))), (7, .long (o)), (0, .ref 56), (1, .ref 7), (2, .ref 102), (3, .int (iI (sd))), (4, .int (iI (mn))), (5, .long (all))]) C dX3_lay_107 rfl (nlt rfl) rfl ?_
        refine x_goto (tgt := 37) C dX3_lay_110 (by decide) ?_
        refine Wx_pick [9, 7, 0, 1, 2, 3, 4, 5] ?_
        refine Wx_lv (lv' := [(9, .int (iI (i + 1))), (7, .long (o)), (0, .ref 56), (1, .ref 7), (2, .ref 102), (3, .int (iI (sd))), (4, .int (iI (mn))), (5, .long (all))]) rfl ?_
        exact ih _ _ _ (by omega) (by omega) (by omega) om hH hF
      · refine x_aload_n (i := 2) C dX3_lay_53 rfl rfl ?_
        refine x_iload C dX3_lay_54 rfl ?_
        refine x_iald C (nlt rfl) rfl rfl (nle rfl) (by omega) (by omega) dX3_lay_56 ?_
        refine x_gen (fun v15 ev15 => ?_)
        have qv15 : ((-2147483648) : Int) ≤ v15 ∧ v15 ≤ (2147483647 : Int) := by
          rw [ev15]
          exact hH.rA (k := 102) (n := 6) (p := ((-2147483648), 2147483647)) (nlt rfl) rfl (by decide +kernel) (by omega)
        refine x_iconst C dX3_lay_57 ?_
        refine x_icmp_eq (tgt := 107) C dX3_lay_58 (by decide) ⟨by omega, by omega⟩ ⟨by omega, by omega⟩ (fun h16 => ?_) (fun h16 => ?_)
        · refine x_iinc (lv' := [(9, .int (iI (i + 1))), (7, .long (o)), (0, .ref 56), (1, .ref 7), (2, .ref 102), (3, .int (iI (sd))), (4, .int (iI (mn))), (5, .long (all))]) C dX3_lay_107 rfl (nlt rfl) rfl ?_
          refine x_goto (tgt := 37) C dX3_lay_110 (by decide) ?_
          refine Wx_pick [9, 7, 0, 1, 2, 3, 4, 5] ?_
          refine Wx_lv (lv' := [(9, .int (iI (i + 1))), (7, .long (o)), (0, .ref 56), (1, .ref 7), (2, .ref 102), (3, .int (iI (sd))), (4, .int (iI (mn))), (5, .long (all))]) rfl ?_
          exact ih _ _ _ (by omega) (by omega) (by omega) om hH hF
        · refine x_aload_n (i := 1) C dX3_lay_61 rfl rfl ?_
          refine x_getRs (r := 8) C fkX_X3_44 (nlt rfl) rfl (HG.rR hH (k := 7) (i := 5) rfl rfl) dX3_lay_62 ?_
          refine x_iload C dX3_lay_65 rfl ?_
          refine x_iald C (nlt rfl) rfl rfl (nle rfl) (by omega) (by omega) dX3_lay_67 ?_
          refine x_gen (fun v17 ev17 => ?_)
          have qv17 : ((-2147483648) : Int) ≤ v17 ∧ v17 ≤ (2147483647 : Int) := by
            rw [ev17]
            exact hH.rA (k := 8) (n := 6) (p := ((-2147483648), 2147483647)) (nlt rfl) rfl (by decide +kernel) (by omega)
          refine x_iload_n (i := 3) C dX3_lay_68 rfl rfl ?_
          refine x_icmp_ne (tgt := 91) C dX3_lay_69 (by decide) ⟨by omega, by omega⟩ ⟨by omega, by omega⟩ (fun h18 => ?_) (fun h18 => ?_)
          · refine x_aload_n (i := 0) C dX3_lay_91 rfl rfl ?_
            refine x_dup C dX3_lay_92 rfl ?_
            refine x_getL C fkX_X3_38 (nlt rfl) rfl dX3_lay_93 ?_
            refine x_genL (fun l19 el19 => ?_)
            refine x_aload_n (i := 2) C dX3_lay_96 rfl rfl ?_
            refine x_iload C dX3_lay_97 rfl ?_
            refine x_iald C (nlt rfl) rfl rfl (nle rfl) (by omega) (by omega) dX3_lay_99 ?_
            refine x_gen (fun v20 ev20 => ?_)
            have qv20 : ((-2147483648) : Int) ≤ v20 ∧ v20 ≤ (2147483647 : Int) := by
              rw [ev20]
              exact hH.rA (k := 102) (n := 6) (p := ((-2147483648), 2147483647)) (nlt rfl) rfl (by decide +kernel) (by omega)
            refine x_callSN (As := [.int (iI (v20))]) C (by exact (xf_bit (f := v20))) cnX3_28 rfl rfl (nle rfl) (by exact ⟨nle rfl, nle rfl⟩) dX3_lay_100 ?_
            rintro _ Xl21 ⟨hxl21, rfl⟩
            rw [hxl21]
            refine Wx_st (st' := [.long ((1 : Int64) <<< ((iI (v20)).toInt64 &&& 63)), .long (l19), .ref 56]) rfl ?_
            refine x_genL (fun l21 el21 => ?_)
            refine Wx_st (st' := [.long (l21), .long (l19), .ref 56]) rfl ?_
            refine x_lor C dX3_lay_103 ?_
            refine x_genL (fun l22 el22 => ?_)
            refine x_putL C pkX_X3_38 (nlt rfl) rfl dX3_lay_104 ?_
            refine x_gX (fun Yy23 eYy23 => ?_)
            have hHy23 : HG vX Yy23 := by
              rw [eYy23]
              exact hg_wLF hH (p := ((-9223372036854775808), 9223372036854775807)) rfl (l64 _)
            have hFy23 : FR (cMd k_X_220) X0 Yy23 := by
              rw [eYy23]
              exact FR.upL hF (rfl)
            replace eYy23 : Yy23 = upL X 56 2 (l22) := eYy23
            refine x_iinc (lv' := [(9, .int (iI (i + 1))), (7, .long (o)), (0, .ref 56), (1, .ref 7), (2, .ref 102), (3, .int (iI (sd))), (4, .int (iI (mn))), (5, .long (all))]) C dX3_lay_107 rfl (nlt rfl) rfl ?_
            refine x_goto (tgt := 37) C dX3_lay_110 (by decide) ?_
            refine Wx_pick [9, 7, 0, 1, 2, 3, 4, 5] ?_
            refine Wx_lv (lv' := [(9, .int (iI (i + 1))), (7, .long (o)), (0, .ref 56), (1, .ref 7), (2, .ref 102), (3, .int (iI (sd))), (4, .int (iI (mn))), (5, .long (all))]) rfl ?_
            exact ih _ _ _ (by omega) (by omega) (by omega) om hHy23 hFy23
          · refine x_lload C dX3_lay_72 rfl ?_
            refine x_aload_n (i := 2) C dX3_lay_74 rfl rfl ?_
            refine x_iload C dX3_lay_75 rfl ?_
            refine x_iald C (nlt rfl) rfl rfl (nle rfl) (by omega) (by omega) dX3_lay_77 ?_
            refine x_gen (fun v24 ev24 => ?_)
            have qv24 : ((-2147483648) : Int) ≤ v24 ∧ v24 ≤ (2147483647 : Int) := by
              rw [ev24]
              exact hH.rA (k := 102) (n := 6) (p := ((-2147483648), 2147483647)) (nlt rfl) rfl (by decide +kernel) (by omega)
            refine x_callSN (As := [.int (iI (v24))]) C (by exact (xf_bit (f := v24))) cnX3_28 rfl rfl (nle rfl) (by exact ⟨nle rfl, nle rfl⟩) dX3_lay_78 ?_
            rintro _ Xl25 ⟨hxl25, rfl⟩
            rw [hxl25]
            refine Wx_st (st' := [.long ((1 : Int64) <<< ((iI (v24)).toInt64 &&& 63)), .long (o)]) rfl ?_
            refine x_genL (fun l25 el25 => ?_)
            refine Wx_st (st' := [.long (l25), .long (o)]) rfl ?_
            refine x_ldc2 C dX3_lay_81 cnX3_36 ?_
            refine x_lxor C dX3_lay_84 ?_
            refine x_genL (fun l26 el26 => ?_)
            refine x_land C dX3_lay_85 ?_
            refine x_genL (fun l27 el27 => ?_)
            refine x_lstore (lv' := [(7, .long (l27)), (9, .int (iI (i))), (0, .ref 56), (1, .ref 7), (2, .ref 102), (3, .int (iI (sd))), (4, .int (iI (mn))), (5, .long (all))]) C dX3_lay_86 (nlt rfl) rfl ?_
            refine x_goto (tgt := 107) C dX3_lay_88 (by decide) ?_
            refine x_iinc (lv' := [(9, .int (iI (i + 1))), (7, .long (l27)), (0, .ref 56), (1, .ref 7), (2, .ref 102), (3, .int (iI (sd))), (4, .int (iI (mn))), (5, .long (all))]) C dX3_lay_107 rfl (nlt rfl) rfl ?_
            refine x_goto (tgt := 37) C dX3_lay_110 (by decide) ?_
            refine Wx_pick [9, 7, 0, 1, 2, 3, 4, 5] ?_
            refine Wx_lv (lv' := [(9, .int (iI (i + 1))), (7, .long (l27)), (0, .ref 56), (1, .ref 7), (2, .ref 102), (3, .int (iI (sd))), (4, .int (iI (mn))), (5, .long (all))]) rfl ?_
            exact ih _ _ _ (by omega) (by omega) (by omega) (by rw [el27]; exact m36_and om) hH hF
set_option maxHeartbeats 4000000 in
set_option maxRecDepth 100000 in
theorem xf_lay56_7_102 {D : va_G} {ad : Nat → Nat} {cA : Nat → ClassId} {X0 : XT} {sd mn : Int} (ss : inR sd) (mm : inR mn) (hH : HG vX X0) (hF : FR (cMd k_X_220) X0 X0) : MetX (wX D ad cA) yX3_lay cX3_lay 10 none 2 49 [.ref 56, .ref 7, .ref 102, .int (iI (sd)), .int (iI (mn))] X0 (fun r X1 => r = none ∧ HG vX X1 ∧ FR (cMd k_X_220) X0 X1 ∧ GOKP 57 58 X1) := by
  have ss' := ss
  have mm' := mm
  unfold inR at ss' mm'
  refine MetX.mk (own := RX3) (by decide +kernel) rfl (nle rfl) (fun E C hQ => ?_)
  refine Wx_lv (lv' := [(0, .ref 56), (1, .ref 7), (2, .ref 102), (3, .int (iI (sd))), (4, .int (iI (mn)))]) rfl ?_
  refine x_aload_n (i := 1) C dX3_lay_0 rfl rfl ?_
  refine x_getI C fkX_X3_19 (nlt rfl) rfl dX3_lay_1 ?_
  refine x_gen (fun v1 ev1 => ?_)
  have qv1 : (0 : Int) ≤ v1 ∧ v1 ≤ (6 : Int) := by
    rw [ev1]
    exact hH.rF (k := 7) (i := 0) rfl rfl
  refine x_aload_n (i := 1) C dX3_lay_4 rfl rfl ?_
  refine x_getI C fkX_X3_25 (nlt rfl) rfl dX3_lay_5 ?_
  refine x_gen (fun v2 ev2 => ?_)
  have qv2 : (0 : Int) ≤ v2 ∧ v2 ≤ (6 : Int) := by
    rw [ev2]
    exact hH.rF (k := 7) (i := 1) rfl rfl
  refine x_imul C dX3_lay_8 ?_
  refine x_callSN (As := [.int (iI (v1 * v2))]) C (by exact (xf_bit (f := v1 * v2))) cnX3_28 rfl rfl (nle rfl) (by exact ⟨nle rfl, nle rfl⟩) dX3_lay_9 ?_
  rintro _ Xl3 ⟨hxl3, rfl⟩
  rw [hxl3]
  refine Wx_st (st' := [.long ((1 : Int64) <<< ((iI (v1 * v2)).toInt64 &&& 63))]) rfl ?_
  refine x_genL (fun l3 el3 => ?_)
  refine Wx_st (st' := [.long (l3)]) rfl ?_
  refine x_lconst C dX3_lay_12 ?_
  refine x_eqL (b := 1) rfl ?_
  refine x_lsub C dX3_lay_13 ?_
  refine x_genL (fun l4 el4 => ?_)
  refine x_lstore (lv' := [(5, .long (l4)), (0, .ref 56), (1, .ref 7), (2, .ref 102), (3, .int (iI (sd))), (4, .int (iI (mn)))]) C dX3_lay_14 (nlt rfl) rfl ?_
  refine x_lload C dX3_lay_16 rfl ?_
  refine x_aload_n (i := 1) C dX3_lay_18 rfl rfl ?_
  refine x_getL C fkX_X3_32 (nlt rfl) rfl dX3_lay_19 ?_
  refine x_genL (fun l5 el5 => ?_)
  refine x_ldc2 C dX3_lay_22 cnX3_36 ?_
  refine x_lxor C dX3_lay_25 ?_
  refine x_genL (fun l6 el6 => ?_)
  refine x_land C dX3_lay_26 ?_
  refine x_genL (fun l7 el7 => ?_)
  refine x_lstore (lv' := [(7, .long (l7)), (5, .long (l4)), (0, .ref 56), (1, .ref 7), (2, .ref 102), (3, .int (iI (sd))), (4, .int (iI (mn)))]) C dX3_lay_27 (nlt rfl) rfl ?_
  refine x_aload_n (i := 0) C dX3_lay_29 rfl rfl ?_
  refine x_lconst C dX3_lay_30 ?_
  refine x_eqL (b := 0) rfl ?_
  refine x_putL C pkX_X3_38 (nlt rfl) rfl dX3_lay_31 ?_
  refine x_gX (fun Yy8 eYy8 => ?_)
  have hHy8 : HG vX Yy8 := by
    rw [eYy8]
    exact hg_wLF hH (p := ((-9223372036854775808), 9223372036854775807)) rfl (l64 _)
  have hFy8 : FR (cMd k_X_220) X0 Yy8 := by
    rw [eYy8]
    exact FR.upL hF (rfl)
  replace eYy8 : Yy8 = upL X0 56 2 (0) := eYy8
  refine x_iconst C dX3_lay_34 ?_
  refine x_istore (lv' := [(9, .int (iI (0))), (7, .long (l7)), (5, .long (l4)), (0, .ref 56), (1, .ref 7), (2, .ref 102), (3, .int (iI (sd))), (4, .int (iI (mn)))]) C dX3_lay_35 (nlt rfl) rfl ?_
  refine Wx_pick [9, 7, 0, 1, 2, 3, 4, 5] ?_
  refine Wx_lv (lv' := [(9, .int (iI (0))), (7, .long (l7)), (0, .ref 56), (1, .ref 7), (2, .ref 102), (3, .int (iI (sd))), (4, .int (iI (mn))), (5, .long (l4))]) rfl ?_
  exact xl_lay56_7_102 ss mm C hQ 7 0 _ _ (by omega) (by omega) (by omega) (by rw [el7]; exact m36_and (by rw [el4, el3]; exact m36_all (wh_36 (by omega) (by omega) (by omega) (by omega)))) hHy8 hFy8
set_option maxRecDepth 10000 in
theorem t_X_220 {D : va_G} {ad : Nat → Nat} {cA : Nat → ClassId} : CTR mtX vX gX (wX D ad cA) k_X_220 := by
  intro g X hpre
  obtain ⟨h00, hei, hel, hdl, hH, hE⟩ := hpre
  have h0 : (0 : Int) ≤ g.1 0 ∧ g.1 0 ≤ (0 : Int) := hei 0 _ rfl
  have h1 : ((-2147483648) : Int) ≤ g.1 1 ∧ g.1 1 ≤ (2147483647 : Int) := hei 1 _ rfl
  have h2 : ((-2147483648) : Int) ≤ g.1 2 ∧ g.1 2 ≤ (2147483647 : Int) := hei 2 _ rfl
  refine MetX.imp (fun r X1 hp => ?_) (xf_lay56_7_102 (X0 := X) (sd := g.1 1 + 0) (mn := g.1 2 + 0) ⟨by omega, by omega⟩ ⟨by omega, by omega⟩ hH FR.rf)
  obtain ⟨rfl, hH1, hF1, hG1⟩ := hp
  have e1 := gokX_1 hG1
  exact (altM_mk 0 [1] rfl (ei_cons ⟨by show (0 : Int) ≤ g.1 0; omega, by show g.1 0 ≤ (0 : Int); omega⟩ (ei_cons ⟨by show ((-2147483648) : Int) ≤ g.1 1; omega, by show g.1 1 ≤ (2147483647 : Int); omega⟩ (ei_cons ⟨by show ((-2147483648) : Int) ≤ g.1 2; omega, by show g.1 2 ≤ (2147483647 : Int); omega⟩ (ei_cons ⟨by show (1 : Int) ≤ 1; omega, by show 1 ≤ (1 : Int); omega⟩ ei_nil)))) el_nil (by rfl) (dl_cons (gh_mk rfl (by show gokX 57 58 X1 = (1 : Int) + 0; omega)) dl_nil) gd_nil hH1 (wdX.2.1 X X1 (fun k i hp => hF1 k i (nprX (md := cMd k_X_220) (by decide +kernel) hp)) hE) hF1)
set_option maxHeartbeats 4000000 in
set_option maxRecDepth 100000 in
theorem xl_lay56_7_99 {D : va_G} {ad : Nat → Nat} {cA : Nat → ClassId} {X0 : XT} {all : Int64} {sd mn : Int} (ss : inR sd) (mm : inR mn) {E : ET} (C : CX E (wX D ad cA) cX3_lay 10 RX3 none { frames := 2, cells := 0, slots := 0, locals := 49 }) (hQ : EQ E (wX D ad cA) (fun r X1 => r = none ∧ HG vX X1 ∧ FR (cMd k_X_235) X0 X1 ∧ GOKP 57 58 X1)) : ∀ (n : Nat) (i : Int) (o : Int64) (X : XT), 6 - i < n → 0 ≤ i → i ≤ 6 → m36 o → HG vX X → FR (cMd k_X_235) X0 X → Wx E (wX D ad cA) 10 (PX (wX D ad cA) X) 37 [(9, .int (iI (i))), (7, .long (o)), (0, .ref 56), (1, .ref 7), (2, .ref 99), (3, .int (iI (sd))), (4, .int (iI (mn))), (5, .long (all))] [] := by
  intro n
  induction n with
  | zero => intro i o X hn i0 i1 om hH hF; exfalso; omega
  | succ n ih =>
    intro i o X hn i0 i1 om hH hF
    unfold inR at ss mm
    refine x_iload C dX3_lay_37 rfl ?_
    refine x_aload_n (i := 1) C dX3_lay_39 rfl rfl ?_
    refine x_getI C fkX_X3_41 (nlt rfl) rfl dX3_lay_40 ?_
    refine x_gen (fun v1 ev1 => ?_)
    have qv1 : (0 : Int) ≤ v1 ∧ v1 ≤ (6 : Int) := by
      rw [ev1]
      exact hH.rF (k := 7) (i := 4) rfl rfl
    refine x_icmp_ge (tgt := 113) C dX3_lay_43 (by decide) ⟨by omega, by omega⟩ ⟨by omega, by omega⟩ (fun h2 => ?_) (fun h2 => ?_)
    · refine x_aload_n (i := 0) C dX3_lay_113 rfl rfl ?_
      refine x_aload_n (i := 0) C dX3_lay_114 rfl rfl ?_
      refine x_getL C fkX_X3_38 (nlt rfl) rfl dX3_lay_115 ?_
      refine x_genL (fun l3 el3 => ?_)
      refine x_aload_n (i := 1) C dX3_lay_118 rfl rfl ?_
      refine x_getL C fkX_X3_47 (nlt rfl) rfl dX3_lay_119 ?_
      refine x_genL (fun l4 el4 => ?_)
      refine x_lor C dX3_lay_122 ?_
      refine x_genL (fun l5 el5 => ?_)
      refine x_putL C pkX_X3_50 (nlt rfl) rfl dX3_lay_123 ?_
      refine x_gX (fun Yy6 eYy6 => ?_)
      have hHy6 : HG vX Yy6 := by
        rw [eYy6]
        exact hg_wLF hH (p := ((-9223372036854775808), 9223372036854775807)) rfl (l64 _)
      have hFy6 : FR (cMd k_X_235) X0 Yy6 := by
        rw [eYy6]
        exact FR.upL hF (rfl)
      replace eYy6 : Yy6 = upL X 56 4 (l5) := eYy6
      refine x_aload_n (i := 0) C dX3_lay_126 rfl rfl ?_
      refine x_getRs (r := 58) C fkX_X3_15 (nlt rfl) rfl (HG.rR hHy6 (k := 56) (i := 1) rfl rfl) dX3_lay_127 ?_
      refine x_iconst C dX3_lay_130 ?_
      refine x_aload_n (i := 1) C dX3_lay_131 rfl rfl ?_
      refine x_getI C fkX_X3_19 (nlt rfl) rfl dX3_lay_132 ?_
      refine x_gen (fun v7 ev7 => ?_)
      have qv7 : (0 : Int) ≤ v7 ∧ v7 ≤ (6 : Int) := by
        rw [ev7]
        exact hHy6.rF (k := 7) (i := 0) rfl rfl
      have wv7 : v7 = X0.1 7 0 := by rw [ev7, (hFy6 7 0 rfl).1]
      refine x_ineg C dX3_lay_135 ?_
      refine x_iast C (nlt rfl) rfl rfl (nle rfl) (by omega) (by omega) dX3_lay_136 ?_
      refine x_gX (fun Yy8 eYy8 => ?_)
      have hHy8 : HG vX Yy8 := by
        rw [eYy8]
        exact hg_wA hHy6 (n := 4) (p := ((-6), 6)) (by decide +kernel) (by omega) ⟨by omega, by omega⟩
      have hFy8 : FR (cMd k_X_235) X0 Yy8 := by
        rw [eYy8]
        exact FR.upI hFy6 (rfl)
      replace eYy8 : Yy8 = upI Yy6 58 0 (-v7) := eYy8
      refine x_aload_n (i := 0) C dX3_lay_137 rfl rfl ?_
      refine x_getRs (r := 58) C fkX_X3_15 (nlt rfl) rfl (HG.rR hHy8 (k := 56) (i := 1) rfl rfl) dX3_lay_138 ?_
      refine x_iconst C dX3_lay_141 ?_
      refine x_iconst C dX3_lay_142 ?_
      refine x_iast C (nlt rfl) rfl rfl (nle rfl) (by omega) (by omega) dX3_lay_143 ?_
      refine x_gX (fun Yy9 eYy9 => ?_)
      have hHy9 : HG vX Yy9 := by
        rw [eYy9]
        exact hg_wA hHy8 (n := 4) (p := ((-6), 6)) (by decide +kernel) (by omega) ⟨by omega, by omega⟩
      have hFy9 : FR (cMd k_X_235) X0 Yy9 := by
        rw [eYy9]
        exact FR.upI hFy8 (rfl)
      replace eYy9 : Yy9 = upI Yy8 58 1 (1) := eYy9
      refine x_aload_n (i := 0) C dX3_lay_144 rfl rfl ?_
      refine x_getRs (r := 58) C fkX_X3_15 (nlt rfl) rfl (HG.rR hHy9 (k := 56) (i := 1) rfl rfl) dX3_lay_145 ?_
      refine x_iconst C dX3_lay_148 ?_
      refine x_aload_n (i := 1) C dX3_lay_149 rfl rfl ?_
      refine x_getI C fkX_X3_19 (nlt rfl) rfl dX3_lay_150 ?_
      refine x_gen (fun v10 ev10 => ?_)
      have qv10 : (0 : Int) ≤ v10 ∧ v10 ≤ (6 : Int) := by
        rw [ev10]
        exact hHy9.rF (k := 7) (i := 0) rfl rfl
      have wv10 : v10 = X0.1 7 0 := by rw [ev10, (hFy9 7 0 rfl).1]
      refine x_iast C (nlt rfl) rfl rfl (nle rfl) (by omega) (by omega) dX3_lay_153 ?_
      refine x_gX (fun Yy11 eYy11 => ?_)
      have hHy11 : HG vX Yy11 := by
        rw [eYy11]
        exact hg_wA hHy9 (n := 4) (p := ((-6), 6)) (by decide +kernel) (by omega) ⟨by omega, by omega⟩
      have hFy11 : FR (cMd k_X_235) X0 Yy11 := by
        rw [eYy11]
        exact FR.upI hFy9 (rfl)
      replace eYy11 : Yy11 = upI Yy9 58 2 (v10) := eYy11
      refine x_aload_n (i := 0) C dX3_lay_154 rfl rfl ?_
      refine x_getRs (r := 58) C fkX_X3_15 (nlt rfl) rfl (HG.rR hHy11 (k := 56) (i := 1) rfl rfl) dX3_lay_155 ?_
      refine x_iconst C dX3_lay_158 ?_
      refine x_iconst C dX3_lay_159 ?_
      refine x_iast C (nlt rfl) rfl rfl (nle rfl) (by omega) (by omega) dX3_lay_160 ?_
      refine x_gX (fun Yy12 eYy12 => ?_)
      have hHy12 : HG vX Yy12 := by
        rw [eYy12]
        exact hg_wA hHy11 (n := 4) (p := ((-6), 6)) (by decide +kernel) (by omega) ⟨by omega, by omega⟩
      have hFy12 : FR (cMd k_X_235) X0 Yy12 := by
        rw [eYy12]
        exact FR.upI hFy11 (rfl)
      replace eYy12 : Yy12 = upI Yy11 58 3 ((-1)) := eYy12
      refine x_aload_n (i := 0) C dX3_lay_161 rfl rfl ?_
      refine x_aload_n (i := 1) C dX3_lay_162 rfl rfl ?_
      refine x_lload C dX3_lay_163 rfl ?_
      refine x_lload C dX3_lay_165 rfl ?_
      refine x_callV (As := [.ref 7, .long (all), .long (o)]) C (by exact (xf_layN56_7 (all := all) (op := o) hHy12 FR.rf)) ckX3_53 im_X3_layNeighbours se_X3_layNeighbours (nlt rfl) rfl rfl rfl rfl (nle rfl) (by exact ⟨nle rfl, nle rfl⟩) dX3_lay_167 ?_
      rintro _ Yy13 ⟨rfl, hHy13, hGy13, P0y13, P1y13, P2y13, P3y13⟩
      have hFy13 : FR (cMd k_X_235) X0 Yy13 := FR.tr hFy12 hGy13 (by decide)
      refine Wx_st (st' := []) rfl ?_
      exact x_vret C hQ dX3_lay_170 (⟨rfl, hHy13, hFy13, by (intro s hs j hj ht); (have lt : ∀ i, tb o i = true → i < 36 := fun i hi => by (by_cases q : i < 36); (exact q); (rw [m36_iff.mp om i (by omega)] at hi; cases hi)); (rcases (show s = 0 ∨ s = 1 ∨ s = 2 ∨ s = 3 by omega) with rfl | rfl | rfl | rfl); ((have p := P0y13 j hj ht); (have := lt _ p.2); (rw [(hGy13 58 0 rfl).1, eYy12, upI_ne (by decide), eYy11, upI_ne (by decide), eYy9, upI_ne (by decide), eYy8, upI_at]); (have p1 := p.1); (have wq := (show Yy12.1 7 0 = v10 by rw [(hFy12 7 0 rfl).1, wv10])); (rw [wq] at this p1); (omega)); ((have := lt _ (P1y13 j hj ht)); (rw [(hGy13 58 1 rfl).1, eYy12, upI_ne (by decide), eYy11, upI_ne (by decide), eYy9, upI_at]); (omega)); ((have := lt _ (P2y13 j hj ht)); (rw [(hGy13 58 2 rfl).1, eYy12, upI_ne (by decide), eYy11, upI_at]); (have wq := (show Yy12.1 7 0 = v10 by rw [(hFy12 7 0 rfl).1, wv10])); (rw [wq] at this); (omega)); ((have p := P3y13 j hj ht); (have := lt _ p.2); (rw [(hGy13 58 3 rfl).1, eYy12, upI_at]); (have p1 := p.1); (omega))⟩)
    · refine x_iload C dX3_lay_46 rfl ?_
      refine x_iload C dX3_lay_48 rfl ?_
      refine x_icmp_eq (tgt := 107) C dX3_lay_50 (by decide) ⟨by omega, by omega⟩ ⟨by omega, by omega⟩ (fun h14 => ?_) (fun h14 => ?_)
      · refine x_iinc (lv' := [(9, .int (iI (i + 1))), (7, .long (o)), (0, .ref 56), (1, .ref 7), (2, .ref 99), (3, .int (iI (sd))), (4, .int (iI (mn))), (5, .long (all))]) C dX3_lay_107 rfl (nlt rfl) rfl ?_
        refine x_goto (tgt := 37) C dX3_lay_110 (by decide) ?_
        refine Wx_pick [9, 7, 0, 1, 2, 3, 4, 5] ?_
        refine Wx_lv (lv' := [(9, .int (iI (i + 1))), (7, .long (o)), (0, .ref 56), (1, .ref 7), (2, .ref 99), (3, .int (iI (sd))), (4, .int (iI (mn))), (5, .long (all))]) rfl ?_
        exact ih _ _ _ (by omega) (by omega) (by omega) om hH hF
      · refine x_aload_n (i := 2) C dX3_lay_53 rfl rfl ?_
        refine x_iload C dX3_lay_54 rfl ?_
        refine x_iald C (nlt rfl) rfl rfl (nle rfl) (by omega) (by omega) dX3_lay_56 ?_
        refine x_gen (fun v15 ev15 => ?_)
        have qv15 : ((-2147483648) : Int) ≤ v15 ∧ v15 ≤ (2147483647 : Int) := by
          rw [ev15]
          exact hH.rA (k := 99) (n := 6) (p := ((-2147483648), 2147483647)) (nlt rfl) rfl (by decide +kernel) (by omega)
        refine x_iconst C dX3_lay_57 ?_
        refine x_icmp_eq (tgt := 107) C dX3_lay_58 (by decide) ⟨by omega, by omega⟩ ⟨by omega, by omega⟩ (fun h16 => ?_) (fun h16 => ?_)
        · refine x_iinc (lv' := [(9, .int (iI (i + 1))), (7, .long (o)), (0, .ref 56), (1, .ref 7), (2, .ref 99), (3, .int (iI (sd))), (4, .int (iI (mn))), (5, .long (all))]) C dX3_lay_107 rfl (nlt rfl) rfl ?_
          refine x_goto (tgt := 37) C dX3_lay_110 (by decide) ?_
          refine Wx_pick [9, 7, 0, 1, 2, 3, 4, 5] ?_
          refine Wx_lv (lv' := [(9, .int (iI (i + 1))), (7, .long (o)), (0, .ref 56), (1, .ref 7), (2, .ref 99), (3, .int (iI (sd))), (4, .int (iI (mn))), (5, .long (all))]) rfl ?_
          exact ih _ _ _ (by omega) (by omega) (by omega) om hH hF
        · refine x_aload_n (i := 1) C dX3_lay_61 rfl rfl ?_
          refine x_getRs (r := 8) C fkX_X3_44 (nlt rfl) rfl (HG.rR hH (k := 7) (i := 5) rfl rfl) dX3_lay_62 ?_
          refine x_iload C dX3_lay_65 rfl ?_
          refine x_iald C (nlt rfl) rfl rfl (nle rfl) (by omega) (by omega) dX3_lay_67 ?_
          refine x_gen (fun v17 ev17 => ?_)
          have qv17 : ((-2147483648) : Int) ≤ v17 ∧ v17 ≤ (2147483647 : Int) := by
            rw [ev17]
            exact hH.rA (k := 8) (n := 6) (p := ((-2147483648), 2147483647)) (nlt rfl) rfl (by decide +kernel) (by omega)
          refine x_iload_n (i := 3) C dX3_lay_68 rfl rfl ?_
          refine x_icmp_ne (tgt := 91) C dX3_lay_69 (by decide) ⟨by omega, by omega⟩ ⟨by omega, by omega⟩ (fun h18 => ?_) (fun h18 => ?_)
          · refine x_aload_n (i := 0) C dX3_lay_91 rfl rfl ?_
            refine x_dup C dX3_lay_92 rfl ?_
            refine x_getL C fkX_X3_38 (nlt rfl) rfl dX3_lay_93 ?_
            refine x_genL (fun l19 el19 => ?_)
            refine x_aload_n (i := 2) C dX3_lay_96 rfl rfl ?_
            refine x_iload C dX3_lay_97 rfl ?_
            refine x_iald C (nlt rfl) rfl rfl (nle rfl) (by omega) (by omega) dX3_lay_99 ?_
            refine x_gen (fun v20 ev20 => ?_)
            have qv20 : ((-2147483648) : Int) ≤ v20 ∧ v20 ≤ (2147483647 : Int) := by
              rw [ev20]
              exact hH.rA (k := 99) (n := 6) (p := ((-2147483648), 2147483647)) (nlt rfl) rfl (by decide +kernel) (by omega)
            refine x_callSN (As := [.int (iI (v20))]) C (by exact (xf_bit (f := v20))) cnX3_28 rfl rfl (nle rfl) (by exact ⟨nle rfl, nle rfl⟩) dX3_lay_100 ?_
            rintro _ Xl21 ⟨hxl21, rfl⟩
            rw [hxl21]
            refine Wx_st (st' := [.long ((1 : Int64) <<< ((iI (v20)).toInt64 &&& 63)), .long (l19), .ref 56]) rfl ?_
            refine x_genL (fun l21 el21 => ?_)
            refine Wx_st (st' := [.long (l21), .long (l19), .ref 56]) rfl ?_
            refine x_lor C dX3_lay_103 ?_
            refine x_genL (fun l22 el22 => ?_)
            refine x_putL C pkX_X3_38 (nlt rfl) rfl dX3_lay_104 ?_
            refine x_gX (fun Yy23 eYy23 => ?_)
            have hHy23 : HG vX Yy23 := by
              rw [eYy23]
              exact hg_wLF hH (p := ((-9223372036854775808), 9223372036854775807)) rfl (l64 _)
            have hFy23 : FR (cMd k_X_235) X0 Yy23 := by
              rw [eYy23]
              exact FR.upL hF (rfl)
            replace eYy23 : Yy23 = upL X 56 2 (l22) := eYy23
            refine x_iinc (lv' := [(9, .int (iI (i + 1))), (7, .long (o)), (0, .ref 56), (1, .ref 7), (2, .ref 99), (3, .int (iI (sd))), (4, .int (iI (mn))), (5, .long (all))]) C dX3_lay_107 rfl (nlt rfl) rfl ?_
            refine x_goto (tgt := 37) C dX3_lay_110 (by decide) ?_
            refine Wx_pick [9, 7, 0, 1, 2, 3, 4, 5] ?_
            refine Wx_lv (lv' := [(9, .int (iI (i + 1))), (7, .long (o)), (0, .ref 56), (1, .ref 7), (2, .ref 99), (3, .int (iI (sd))), (4, .int (iI (mn))), (5, .long (all))]) rfl ?_
            exact ih _ _ _ (by omega) (by omega) (by omega) om hHy23 hFy23
          · refine x_lload C dX3_lay_72 rfl ?_
            refine x_aload_n (i := 2) C dX3_lay_74 rfl rfl ?_
            refine x_iload C dX3_lay_75 rfl ?_
            refine x_iald C (nlt rfl) rfl rfl (nle rfl) (by omega) (by omega) dX3_lay_77 ?_
            refine x_gen (fun v24 ev24 => ?_)
            have qv24 : ((-2147483648) : Int) ≤ v24 ∧ v24 ≤ (2147483647 : Int) := by
              rw [ev24]
              exact hH.rA (k := 99) (n := 6) (p := ((-2147483648), 2147483647)) (nlt rfl) rfl (by decide +kernel) (by omega)
            refine x_callSN (As := [.int (iI (v24))]) C (by exact (xf_bit (f := v24))) cnX3_28 rfl rfl (nle rfl) (by exact ⟨nle rfl, nle rfl⟩) dX3_lay_78 ?_
            rintro _ Xl25 ⟨hxl25, rfl⟩
            rw [hxl25]
            refine Wx_st (st' := [.long ((1 : Int64) <<< ((iI (v24)).toInt64 &&& 63)), .long (o)]) rfl ?_
            refine x_genL (fun l25 el25 => ?_)
            refine Wx_st (st' := [.long (l25), .long (o)]) rfl ?_
            refine x_ldc2 C dX3_lay_81 cnX3_36 ?_
            refine x_lxor C dX3_lay_84 ?_
            refine x_genL (fun l26 el26 => ?_)
            refine x_land C dX3_lay_85 ?_
            refine x_genL (fun l27 el27 => ?_)
            refine x_lstore (lv' := [(7, .long (l27)), (9, .int (iI (i))), (0, .ref 56), (1, .ref 7), (2, .ref 99), (3, .int (iI (sd))), (4, .int (iI (mn))), (5, .long (all))]) C dX3_lay_86 (nlt rfl) rfl ?_
            refine x_goto (tgt := 107) C dX3_lay_88 (by decide) ?_
            refine x_iinc (lv' := [(9, .int (iI (i + 1))), (7, .long (l27)), (0, .ref 56), (1, .ref 7), (2, .ref 99), (3, .int (iI (sd))), (4, .int (iI (mn))), (5, .long (all))]) C dX3_lay_107 rfl (nlt rfl) rfl ?_
            refine x_goto (tgt := 37) C dX3_lay_110 (by decide) ?_
            refine Wx_pick [9, 7, 0, 1, 2, 3, 4, 5] ?_
            refine Wx_lv (lv' := [(9, .int (iI (i + 1))), (7, .long (l27)), (0, .ref 56), (1, .ref 7), (2, .ref 99), (3, .int (iI (sd))), (4, .int (iI (mn))), (5, .long (all))]) rfl ?_
            exact ih _ _ _ (by omega) (by omega) (by omega) (by rw [el27]; exact m36_and om) hH hF
set_option maxHeartbeats 4000000 in
set_option maxRecDepth 100000 in
theorem xf_lay56_7_99 {D : va_G} {ad : Nat → Nat} {cA : Nat → ClassId} {X0 : XT} {sd mn : Int} (ss : inR sd) (mm : inR mn) (hH : HG vX X0) (hF : FR (cMd k_X_235) X0 X0) : MetX (wX D ad cA) yX3_lay cX3_lay 10 none 2 49 [.ref 56, .ref 7, .ref 99, .int (iI (sd)), .int (iI (mn))] X0 (fun r X1 => r = none ∧ HG vX X1 ∧ FR (cMd k_X_235) X0 X1 ∧ GOKP 57 58 X1) := by
  have ss' := ss
  have mm' := mm
  unfold inR at ss' mm'
  refine MetX.mk (own := RX3) (by decide +kernel) rfl (nle rfl) (fun E C hQ => ?_)
  refine Wx_lv (lv' := [(0, .ref 56), (1, .ref 7), (2, .ref 99), (3, .int (iI (sd))), (4, .int (iI (mn)))]) rfl ?_
  refine x_aload_n (i := 1) C dX3_lay_0 rfl rfl ?_
  refine x_getI C fkX_X3_19 (nlt rfl) rfl dX3_lay_1 ?_
  refine x_gen (fun v1 ev1 => ?_)
  have qv1 : (0 : Int) ≤ v1 ∧ v1 ≤ (6 : Int) := by
    rw [ev1]
    exact hH.rF (k := 7) (i := 0) rfl rfl
  refine x_aload_n (i := 1) C dX3_lay_4 rfl rfl ?_
  refine x_getI C fkX_X3_25 (nlt rfl) rfl dX3_lay_5 ?_
  refine x_gen (fun v2 ev2 => ?_)
  have qv2 : (0 : Int) ≤ v2 ∧ v2 ≤ (6 : Int) := by
    rw [ev2]
    exact hH.rF (k := 7) (i := 1) rfl rfl
  refine x_imul C dX3_lay_8 ?_
  refine x_callSN (As := [.int (iI (v1 * v2))]) C (by exact (xf_bit (f := v1 * v2))) cnX3_28 rfl rfl (nle rfl) (by exact ⟨nle rfl, nle rfl⟩) dX3_lay_9 ?_
  rintro _ Xl3 ⟨hxl3, rfl⟩
  rw [hxl3]
  refine Wx_st (st' := [.long ((1 : Int64) <<< ((iI (v1 * v2)).toInt64 &&& 63))]) rfl ?_
  refine x_genL (fun l3 el3 => ?_)
  refine Wx_st (st' := [.long (l3)]) rfl ?_
  refine x_lconst C dX3_lay_12 ?_
  refine x_eqL (b := 1) rfl ?_
  refine x_lsub C dX3_lay_13 ?_
  refine x_genL (fun l4 el4 => ?_)
  refine x_lstore (lv' := [(5, .long (l4)), (0, .ref 56), (1, .ref 7), (2, .ref 99), (3, .int (iI (sd))), (4, .int (iI (mn)))]) C dX3_lay_14 (nlt rfl) rfl ?_
  refine x_lload C dX3_lay_16 rfl ?_
  refine x_aload_n (i := 1) C dX3_lay_18 rfl rfl ?_
  refine x_getL C fkX_X3_32 (nlt rfl) rfl dX3_lay_19 ?_
  refine x_genL (fun l5 el5 => ?_)
  refine x_ldc2 C dX3_lay_22 cnX3_36 ?_
  refine x_lxor C dX3_lay_25 ?_
  refine x_genL (fun l6 el6 => ?_)
  refine x_land C dX3_lay_26 ?_
  refine x_genL (fun l7 el7 => ?_)
  refine x_lstore (lv' := [(7, .long (l7)), (5, .long (l4)), (0, .ref 56), (1, .ref 7), (2, .ref 99), (3, .int (iI (sd))), (4, .int (iI (mn)))]) C dX3_lay_27 (nlt rfl) rfl ?_
  refine x_aload_n (i := 0) C dX3_lay_29 rfl rfl ?_
  refine x_lconst C dX3_lay_30 ?_
  refine x_eqL (b := 0) rfl ?_
  refine x_putL C pkX_X3_38 (nlt rfl) rfl dX3_lay_31 ?_
  refine x_gX (fun Yy8 eYy8 => ?_)
  have hHy8 : HG vX Yy8 := by
    rw [eYy8]
    exact hg_wLF hH (p := ((-9223372036854775808), 9223372036854775807)) rfl (l64 _)
  have hFy8 : FR (cMd k_X_235) X0 Yy8 := by
    rw [eYy8]
    exact FR.upL hF (rfl)
  replace eYy8 : Yy8 = upL X0 56 2 (0) := eYy8
  refine x_iconst C dX3_lay_34 ?_
  refine x_istore (lv' := [(9, .int (iI (0))), (7, .long (l7)), (5, .long (l4)), (0, .ref 56), (1, .ref 7), (2, .ref 99), (3, .int (iI (sd))), (4, .int (iI (mn)))]) C dX3_lay_35 (nlt rfl) rfl ?_
  refine Wx_pick [9, 7, 0, 1, 2, 3, 4, 5] ?_
  refine Wx_lv (lv' := [(9, .int (iI (0))), (7, .long (l7)), (0, .ref 56), (1, .ref 7), (2, .ref 99), (3, .int (iI (sd))), (4, .int (iI (mn))), (5, .long (l4))]) rfl ?_
  exact xl_lay56_7_99 ss mm C hQ 7 0 _ _ (by omega) (by omega) (by omega) (by rw [el7]; exact m36_and (by rw [el4, el3]; exact m36_all (wh_36 (by omega) (by omega) (by omega) (by omega)))) hHy8 hFy8
set_option maxRecDepth 10000 in
theorem t_X_235 {D : va_G} {ad : Nat → Nat} {cA : Nat → ClassId} : CTR mtX vX gX (wX D ad cA) k_X_235 := by
  intro g X hpre
  obtain ⟨h00, hei, hel, hdl, hH, hE⟩ := hpre
  have h0 : (0 : Int) ≤ g.1 0 ∧ g.1 0 ≤ (0 : Int) := hei 0 _ rfl
  have h1 : ((-2147483648) : Int) ≤ g.1 1 ∧ g.1 1 ≤ (2147483647 : Int) := hei 1 _ rfl
  have h2 : ((-2147483648) : Int) ≤ g.1 2 ∧ g.1 2 ≤ (2147483647 : Int) := hei 2 _ rfl
  refine MetX.imp (fun r X1 hp => ?_) (xf_lay56_7_99 (X0 := X) (sd := g.1 1 + 0) (mn := g.1 2 + 0) ⟨by omega, by omega⟩ ⟨by omega, by omega⟩ hH FR.rf)
  obtain ⟨rfl, hH1, hF1, hG1⟩ := hp
  have e1 := gokX_1 hG1
  exact (altM_mk 0 [1] rfl (ei_cons ⟨by show (0 : Int) ≤ g.1 0; omega, by show g.1 0 ≤ (0 : Int); omega⟩ (ei_cons ⟨by show ((-2147483648) : Int) ≤ g.1 1; omega, by show g.1 1 ≤ (2147483647 : Int); omega⟩ (ei_cons ⟨by show ((-2147483648) : Int) ≤ g.1 2; omega, by show g.1 2 ≤ (2147483647 : Int); omega⟩ (ei_cons ⟨by show (1 : Int) ≤ 1; omega, by show 1 ≤ (1 : Int); omega⟩ ei_nil)))) el_nil (by rfl) (dl_cons (gh_mk rfl (by show gokX 57 58 X1 = (1 : Int) + 0; omega)) dl_nil) gd_nil hH1 (wdX.2.1 X X1 (fun k i hp => hF1 k i (nprX (md := cMd k_X_235) (by decide +kernel) hp)) hE) hF1)
set_option maxHeartbeats 4000000 in
set_option maxRecDepth 100000 in
theorem xl_lay56_7_96 {D : va_G} {ad : Nat → Nat} {cA : Nat → ClassId} {X0 : XT} {all : Int64} {sd mn : Int} (ss : inR sd) (mm : inR mn) {E : ET} (C : CX E (wX D ad cA) cX3_lay 10 RX3 none { frames := 2, cells := 0, slots := 0, locals := 49 }) (hQ : EQ E (wX D ad cA) (fun r X1 => r = none ∧ HG vX X1 ∧ FR (cMd k_X_250) X0 X1 ∧ GOKP 57 58 X1)) : ∀ (n : Nat) (i : Int) (o : Int64) (X : XT), 6 - i < n → 0 ≤ i → i ≤ 6 → m36 o → HG vX X → FR (cMd k_X_250) X0 X → Wx E (wX D ad cA) 10 (PX (wX D ad cA) X) 37 [(9, .int (iI (i))), (7, .long (o)), (0, .ref 56), (1, .ref 7), (2, .ref 96), (3, .int (iI (sd))), (4, .int (iI (mn))), (5, .long (all))] [] := by
  intro n
  induction n with
  | zero => intro i o X hn i0 i1 om hH hF; exfalso; omega
  | succ n ih =>
    intro i o X hn i0 i1 om hH hF
    unfold inR at ss mm
    refine x_iload C dX3_lay_37 rfl ?_
    refine x_aload_n (i := 1) C dX3_lay_39 rfl rfl ?_
    refine x_getI C fkX_X3_41 (nlt rfl) rfl dX3_lay_40 ?_
    refine x_gen (fun v1 ev1 => ?_)
    have qv1 : (0 : Int) ≤ v1 ∧ v1 ≤ (6 : Int) := by
      rw [ev1]
      exact hH.rF (k := 7) (i := 4) rfl rfl
    refine x_icmp_ge (tgt := 113) C dX3_lay_43 (by decide) ⟨by omega, by omega⟩ ⟨by omega, by omega⟩ (fun h2 => ?_) (fun h2 => ?_)
    · refine x_aload_n (i := 0) C dX3_lay_113 rfl rfl ?_
      refine x_aload_n (i := 0) C dX3_lay_114 rfl rfl ?_
      refine x_getL C fkX_X3_38 (nlt rfl) rfl dX3_lay_115 ?_
      refine x_genL (fun l3 el3 => ?_)
      refine x_aload_n (i := 1) C dX3_lay_118 rfl rfl ?_
      refine x_getL C fkX_X3_47 (nlt rfl) rfl dX3_lay_119 ?_
      refine x_genL (fun l4 el4 => ?_)
      refine x_lor C dX3_lay_122 ?_
      refine x_genL (fun l5 el5 => ?_)
      refine x_putL C pkX_X3_50 (nlt rfl) rfl dX3_lay_123 ?_
      refine x_gX (fun Yy6 eYy6 => ?_)
      have hHy6 : HG vX Yy6 := by
        rw [eYy6]
        exact hg_wLF hH (p := ((-9223372036854775808), 9223372036854775807)) rfl (l64 _)
      have hFy6 : FR (cMd k_X_250) X0 Yy6 := by
        rw [eYy6]
        exact FR.upL hF (rfl)
      replace eYy6 : Yy6 = upL X 56 4 (l5) := eYy6
      refine x_aload_n (i := 0) C dX3_lay_126 rfl rfl ?_
      refine x_getRs (r := 58) C fkX_X3_15 (nlt rfl) rfl (HG.rR hHy6 (k := 56) (i := 1) rfl rfl) dX3_lay_127 ?_
      refine x_iconst C dX3_lay_130 ?_
      refine x_aload_n (i := 1) C dX3_lay_131 rfl rfl ?_
      refine x_getI C fkX_X3_19 (nlt rfl) rfl dX3_lay_132 ?_
      refine x_gen (fun v7 ev7 => ?_)
      have qv7 : (0 : Int) ≤ v7 ∧ v7 ≤ (6 : Int) := by
        rw [ev7]
        exact hHy6.rF (k := 7) (i := 0) rfl rfl
      have wv7 : v7 = X0.1 7 0 := by rw [ev7, (hFy6 7 0 rfl).1]
      refine x_ineg C dX3_lay_135 ?_
      refine x_iast C (nlt rfl) rfl rfl (nle rfl) (by omega) (by omega) dX3_lay_136 ?_
      refine x_gX (fun Yy8 eYy8 => ?_)
      have hHy8 : HG vX Yy8 := by
        rw [eYy8]
        exact hg_wA hHy6 (n := 4) (p := ((-6), 6)) (by decide +kernel) (by omega) ⟨by omega, by omega⟩
      have hFy8 : FR (cMd k_X_250) X0 Yy8 := by
        rw [eYy8]
        exact FR.upI hFy6 (rfl)
      replace eYy8 : Yy8 = upI Yy6 58 0 (-v7) := eYy8
      refine x_aload_n (i := 0) C dX3_lay_137 rfl rfl ?_
      refine x_getRs (r := 58) C fkX_X3_15 (nlt rfl) rfl (HG.rR hHy8 (k := 56) (i := 1) rfl rfl) dX3_lay_138 ?_
      refine x_iconst C dX3_lay_141 ?_
      refine x_iconst C dX3_lay_142 ?_
      refine x_iast C (nlt rfl) rfl rfl (nle rfl) (by omega) (by omega) dX3_lay_143 ?_
      refine x_gX (fun Yy9 eYy9 => ?_)
      have hHy9 : HG vX Yy9 := by
        rw [eYy9]
        exact hg_wA hHy8 (n := 4) (p := ((-6), 6)) (by decide +kernel) (by omega) ⟨by omega, by omega⟩
      have hFy9 : FR (cMd k_X_250) X0 Yy9 := by
        rw [eYy9]
        exact FR.upI hFy8 (rfl)
      replace eYy9 : Yy9 = upI Yy8 58 1 (1) := eYy9
      refine x_aload_n (i := 0) C dX3_lay_144 rfl rfl ?_
      refine x_getRs (r := 58) C fkX_X3_15 (nlt rfl) rfl (HG.rR hHy9 (k := 56) (i := 1) rfl rfl) dX3_lay_145 ?_
      refine x_iconst C dX3_lay_148 ?_
      refine x_aload_n (i := 1) C dX3_lay_149 rfl rfl ?_
      refine x_getI C fkX_X3_19 (nlt rfl) rfl dX3_lay_150 ?_
      refine x_gen (fun v10 ev10 => ?_)
      have qv10 : (0 : Int) ≤ v10 ∧ v10 ≤ (6 : Int) := by
        rw [ev10]
        exact hHy9.rF (k := 7) (i := 0) rfl rfl
      have wv10 : v10 = X0.1 7 0 := by rw [ev10, (hFy9 7 0 rfl).1]
      refine x_iast C (nlt rfl) rfl rfl (nle rfl) (by omega) (by omega) dX3_lay_153 ?_
      refine x_gX (fun Yy11 eYy11 => ?_)
      have hHy11 : HG vX Yy11 := by
        rw [eYy11]
        exact hg_wA hHy9 (n := 4) (p := ((-6), 6)) (by decide +kernel) (by omega) ⟨by omega, by omega⟩
      have hFy11 : FR (cMd k_X_250) X0 Yy11 := by
        rw [eYy11]
        exact FR.upI hFy9 (rfl)
      replace eYy11 : Yy11 = upI Yy9 58 2 (v10) := eYy11
      refine x_aload_n (i := 0) C dX3_lay_154 rfl rfl ?_
      refine x_getRs (r := 58) C fkX_X3_15 (nlt rfl) rfl (HG.rR hHy11 (k := 56) (i := 1) rfl rfl) dX3_lay_155 ?_
      refine x_iconst C dX3_lay_158 ?_
      refine x_iconst C dX3_lay_159 ?_
      refine x_iast C (nlt rfl) rfl rfl (nle rfl) (by omega) (by omega) dX3_lay_160 ?_
      refine x_gX (fun Yy12 eYy12 => ?_)
      have hHy12 : HG vX Yy12 := by
        rw [eYy12]
        exact hg_wA hHy11 (n := 4) (p := ((-6), 6)) (by decide +kernel) (by omega) ⟨by omega, by omega⟩
      have hFy12 : FR (cMd k_X_250) X0 Yy12 := by
        rw [eYy12]
        exact FR.upI hFy11 (rfl)
      replace eYy12 : Yy12 = upI Yy11 58 3 ((-1)) := eYy12
      refine x_aload_n (i := 0) C dX3_lay_161 rfl rfl ?_
      refine x_aload_n (i := 1) C dX3_lay_162 rfl rfl ?_
      refine x_lload C dX3_lay_163 rfl ?_
      refine x_lload C dX3_lay_165 rfl ?_
      refine x_callV (As := [.ref 7, .long (all), .long (o)]) C (by exact (xf_layN56_7 (all := all) (op := o) hHy12 FR.rf)) ckX3_53 im_X3_layNeighbours se_X3_layNeighbours (nlt rfl) rfl rfl rfl rfl (nle rfl) (by exact ⟨nle rfl, nle rfl⟩) dX3_lay_167 ?_
      rintro _ Yy13 ⟨rfl, hHy13, hGy13, P0y13, P1y13, P2y13, P3y13⟩
      have hFy13 : FR (cMd k_X_250) X0 Yy13 := FR.tr hFy12 hGy13 (by decide)
      refine Wx_st (st' := []) rfl ?_
      exact x_vret C hQ dX3_lay_170 (⟨rfl, hHy13, hFy13, by (intro s hs j hj ht); (have lt : ∀ i, tb o i = true → i < 36 := fun i hi => by (by_cases q : i < 36); (exact q); (rw [m36_iff.mp om i (by omega)] at hi; cases hi)); (rcases (show s = 0 ∨ s = 1 ∨ s = 2 ∨ s = 3 by omega) with rfl | rfl | rfl | rfl); ((have p := P0y13 j hj ht); (have := lt _ p.2); (rw [(hGy13 58 0 rfl).1, eYy12, upI_ne (by decide), eYy11, upI_ne (by decide), eYy9, upI_ne (by decide), eYy8, upI_at]); (have p1 := p.1); (have wq := (show Yy12.1 7 0 = v10 by rw [(hFy12 7 0 rfl).1, wv10])); (rw [wq] at this p1); (omega)); ((have := lt _ (P1y13 j hj ht)); (rw [(hGy13 58 1 rfl).1, eYy12, upI_ne (by decide), eYy11, upI_ne (by decide), eYy9, upI_at]); (omega)); ((have := lt _ (P2y13 j hj ht)); (rw [(hGy13 58 2 rfl).1, eYy12, upI_ne (by decide), eYy11, upI_at]); (have wq := (show Yy12.1 7 0 = v10 by rw [(hFy12 7 0 rfl).1, wv10])); (rw [wq] at this); (omega)); ((have p := P3y13 j hj ht); (have := lt _ p.2); (rw [(hGy13 58 3 rfl).1, eYy12, upI_at]); (have p1 := p.1); (omega))⟩)
    · refine x_iload C dX3_lay_46 rfl ?_
      refine x_iload C dX3_lay_48 rfl ?_
      refine x_icmp_eq (tgt := 107) C dX3_lay_50 (by decide) ⟨by omega, by omega⟩ ⟨by omega, by omega⟩ (fun h14 => ?_) (fun h14 => ?_)
      · refine x_iinc (lv' := [(9, .int (iI (i + 1))), (7, .long (o)), (0, .ref 56), (1, .ref 7), (2, .ref 96), (3, .int (iI (sd))), (4, .int (iI (mn))), (5, .long (all))]) C dX3_lay_107 rfl (nlt rfl) rfl ?_
        refine x_goto (tgt := 37) C dX3_lay_110 (by decide) ?_
        refine Wx_pick [9, 7, 0, 1, 2, 3, 4, 5] ?_
        refine Wx_lv (lv' := [(9, .int (iI (i + 1))), (7, .long (o)), (0, .ref 56), (1, .ref 7), (2, .ref 96), (3, .int (iI (sd))), (4, .int (iI (mn))), (5, .long (all))]) rfl ?_
        exact ih _ _ _ (by omega) (by omega) (by omega) om hH hF
      · refine x_aload_n (i := 2) C dX3_lay_53 rfl rfl ?_
        refine x_iload C dX3_lay_54 rfl ?_
        refine x_iald C (nlt rfl) rfl rfl (nle rfl) (by omega) (by omega) dX3_lay_56 ?_
        refine x_gen (fun v15 ev15 => ?_)
        have qv15 : ((-2147483648) : Int) ≤ v15 ∧ v15 ≤ (2147483647 : Int) := by
          rw [ev15]
          exact hH.rA (k := 96) (n := 6) (p := ((-2147483648), 2147483647)) (nlt rfl) rfl (by decide +kernel) (by omega)
        refine x_iconst C dX3_lay_57 ?_
        refine x_icmp_eq (tgt := 107) C dX3_lay_58 (by decide) ⟨by omega, by omega⟩ ⟨by omega, by omega⟩ (fun h16 => ?_) (fun h16 => ?_)
        · refine x_iinc (lv' := [(9, .int (iI (i + 1))), (7, .long (o)), (0, .ref 56), (1, .ref 7), (2, .ref 96), (3, .int (iI (sd))), (4, .int (iI (mn))), (5, .long (all))]) C dX3_lay_107 rfl (nlt rfl) rfl ?_
          refine x_goto (tgt := 37) C dX3_lay_110 (by decide) ?_
          refine Wx_pick [9, 7, 0, 1, 2, 3, 4, 5] ?_
          refine Wx_lv (lv' := [(9, .int (iI (i + 1))), (7, .long (o)), (0, .ref 56), (1, .ref 7), (2, .ref 96), (3, .int (iI (sd))), (4, .int (iI (mn))), (5, .long (all))]) rfl ?_
          exact ih _ _ _ (by omega) (by omega) (by omega) om hH hF
        · refine x_aload_n (i := 1) C dX3_lay_61 rfl rfl ?_
          refine x_getRs (r := 8) C fkX_X3_44 (nlt rfl) rfl (HG.rR hH (k := 7) (i := 5) rfl rfl) dX3_lay_62 ?_
          refine x_iload C dX3_lay_65 rfl ?_
          refine x_iald C (nlt rfl) rfl rfl (nle rfl) (by omega) (by omega) dX3_lay_67 ?_
          refine x_gen (fun v17 ev17 => ?_)
          have qv17 : ((-2147483648) : Int) ≤ v17 ∧ v17 ≤ (2147483647 : Int) := by
            rw [ev17]
            exact hH.rA (k := 8) (n := 6) (p := ((-2147483648), 2147483647)) (nlt rfl) rfl (by decide +kernel) (by omega)
          refine x_iload_n (i := 3) C dX3_lay_68 rfl rfl ?_
          refine x_icmp_ne (tgt := 91) C dX3_lay_69 (by decide) ⟨by omega, by omega⟩ ⟨by omega, by omega⟩ (fun h18 => ?_) (fun h18 => ?_)
          · refine x_aload_n (i := 0) C dX3_lay_91 rfl rfl ?_
            refine x_dup C dX3_lay_92 rfl ?_
            refine x_getL C fkX_X3_38 (nlt rfl) rfl dX3_lay_93 ?_
            refine x_genL (fun l19 el19 => ?_)
            refine x_aload_n (i := 2) C dX3_lay_96 rfl rfl ?_
            refine x_iload C dX3_lay_97 rfl ?_
            refine x_iald C (nlt rfl) rfl rfl (nle rfl) (by omega) (by omega) dX3_lay_99 ?_
            refine x_gen (fun v20 ev20 => ?_)
            have qv20 : ((-2147483648) : Int) ≤ v20 ∧ v20 ≤ (2147483647 : Int) := by
              rw [ev20]
              exact hH.rA (k := 96) (n := 6) (p := ((-2147483648), 2147483647)) (nlt rfl) rfl (by decide +kernel) (by omega)
            refine x_callSN (As := [.int (iI (v20))]) C (by exact (xf_bit (f := v20))) cnX3_28 rfl rfl (nle rfl) (by exact ⟨nle rfl, nle rfl⟩) dX3_lay_100 ?_
            rintro _ Xl21 ⟨hxl21, rfl⟩
            rw [hxl21]
            refine Wx_st (st' := [.long ((1 : Int64) <<< ((iI (v20)).toInt64 &&& 63)), .long (l19), .ref 56]) rfl ?_
            refine x_genL (fun l21 el21 => ?_)
            refine Wx_st (st' := [.long (l21), .long (l19), .ref 56]) rfl ?_
            refine x_lor C dX3_lay_103 ?_
            refine x_genL (fun l22 el22 => ?_)
            refine x_putL C pkX_X3_38 (nlt rfl) rfl dX3_lay_104 ?_
            refine x_gX (fun Yy23 eYy23 => ?_)
            have hHy23 : HG vX Yy23 := by
              rw [eYy23]
              exact hg_wLF hH (p := ((-9223372036854775808), 9223372036854775807)) rfl (l64 _)
            have hFy23 : FR (cMd k_X_250) X0 Yy23 := by
              rw [eYy23]
              exact FR.upL hF (rfl)
            replace eYy23 : Yy23 = upL X 56 2 (l22) := eYy23
            refine x_iinc (lv' := [(9, .int (iI (i + 1))), (7, .long (o)), (0, .ref 56), (1, .ref 7), (2, .ref 96), (3, .int (iI (sd))), (4, .int (iI (mn))), (5, .long (all))]) C dX3_lay_107 rfl (nlt rfl) rfl ?_
            refine x_goto (tgt := 37) C dX3_lay_110 (by decide) ?_
            refine Wx_pick [9, 7, 0, 1, 2, 3, 4, 5] ?_
            refine Wx_lv (lv' := [(9, .int (iI (i + 1))), (7, .long (o)), (0, .ref 56), (1, .ref 7), (2, .ref 96), (3, .int (iI (sd))), (4, .int (iI (mn))), (5, .long (all))]) rfl ?_
            exact ih _ _ _ (by omega) (by omega) (by omega) om hHy23 hFy23
          · refine x_lload C dX3_lay_72 rfl ?_
            refine x_aload_n (i := 2) C dX3_lay_74 rfl rfl ?_
            refine x_iload C dX3_lay_75 rfl ?_
            refine x_iald C (nlt rfl) rfl rfl (nle rfl) (by omega) (by omega) dX3_lay_77 ?_
            refine x_gen (fun v24 ev24 => ?_)
            have qv24 : ((-2147483648) : Int) ≤ v24 ∧ v24 ≤ (2147483647 : Int) := by
              rw [ev24]
              exact hH.rA (k := 96) (n := 6) (p := ((-2147483648), 2147483647)) (nlt rfl) rfl (by decide +kernel) (by omega)
            refine x_callSN (As := [.int (iI (v24))]) C (by exact (xf_bit (f := v24))) cnX3_28 rfl rfl (nle rfl) (by exact ⟨nle rfl, nle rfl⟩) dX3_lay_78 ?_
            rintro _ Xl25 ⟨hxl25, rfl⟩
            rw [hxl25]
            refine Wx_st (st' := [.long ((1 : Int64) <<< ((iI (v24)).toInt64 &&& 63)), .long (o)]) rfl ?_
            refine x_genL (fun l25 el25 => ?_)
            refine Wx_st (st' := [.long (l25), .long (o)]) rfl ?_
            refine x_ldc2 C dX3_lay_81 cnX3_36 ?_
            refine x_lxor C dX3_lay_84 ?_
            refine x_genL (fun l26 el26 => ?_)
            refine x_land C dX3_lay_85 ?_
            refine x_genL (fun l27 el27 => ?_)
            refine x_lstore (lv' := [(7, .long (l27)), (9, .int (iI (i))), (0, .ref 56), (1, .ref 7), (2, .ref 96), (3, .int (iI (sd))), (4, .int (iI (mn))), (5, .long (all))]) C dX3_lay_86 (nlt rfl) rfl ?_
            refine x_goto (tgt := 107) C dX3_lay_88 (by decide) ?_
            refine x_iinc (lv' := [(9, .int (iI (i + 1))), (7, .long (l27)), (0, .ref 56), (1, .ref 7), (2, .ref 96), (3, .int (iI (sd))), (4, .int (iI (mn))), (5, .long (all))]) C dX3_lay_107 rfl (nlt rfl) rfl ?_
            refine x_goto (tgt := 37) C dX3_lay_110 (by decide) ?_
            refine Wx_pick [9, 7, 0, 1, 2, 3, 4, 5] ?_
            refine Wx_lv (lv' := [(9, .int (iI (i + 1))), (7, .long (l27)), (0, .ref 56), (1, .ref 7), (2, .ref 96), (3, .int (iI (sd))), (4, .int (iI (mn))), (5, .long (all))]) rfl ?_
            exact ih _ _ _ (by omega) (by omega) (by omega) (by rw [el27]; exact m36_and om) hH hF
set_option maxHeartbeats 4000000 in
set_option maxRecDepth 100000 in
theorem xf_lay56_7_96 {D : va_G} {ad : Nat → Nat} {cA : Nat → ClassId} {X0 : XT} {sd mn : Int} (ss : inR sd) (mm : inR mn) (hH : HG vX X0) (hF : FR (cMd k_X_250) X0 X0) : MetX (wX D ad cA) yX3_lay cX3_lay 10 none 2 49 [.ref 56, .ref 7, .ref 96, .int (iI (sd)), .int (iI (mn))] X0 (fun r X1 => r = none ∧ HG vX X1 ∧ FR (cMd k_X_250) X0 X1 ∧ GOKP 57 58 X1) := by
  have ss' := ss
  have mm' := mm
  unfold inR at ss' mm'
  refine MetX.mk (own := RX3) (by decide +kernel) rfl (nle rfl) (fun E C hQ => ?_)
  refine Wx_lv (lv' := [(0, .ref 56), (1, .ref 7), (2, .ref 96), (3, .int (iI (sd))), (4, .int (iI (mn)))]) rfl ?_
  refine x_aload_n (i := 1) C dX3_lay_0 rfl rfl ?_
  refine x_getI C fkX_X3_19 (nlt rfl) rfl dX3_lay_1 ?_
  refine x_gen (fun v1 ev1 => ?_)
  have qv1 : (0 : Int) ≤ v1 ∧ v1 ≤ (6 : Int) := by
    rw [ev1]
    exact hH.rF (k := 7) (i := 0) rfl rfl
  refine x_aload_n (i := 1) C dX3_lay_4 rfl rfl ?_
  refine x_getI C fkX_X3_25 (nlt rfl) rfl dX3_lay_5 ?_
  refine x_gen (fun v2 ev2 => ?_)
  have qv2 : (0 : Int) ≤ v2 ∧ v2 ≤ (6 : Int) := by
    rw [ev2]
    exact hH.rF (k := 7) (i := 1) rfl rfl
  refine x_imul C dX3_lay_8 ?_
  refine x_callSN (As := [.int (iI (v1 * v2))]) C (by exact (xf_bit (f := v1 * v2))) cnX3_28 rfl rfl (nle rfl) (by exact ⟨nle rfl, nle rfl⟩) dX3_lay_9 ?_
  rintro _ Xl3 ⟨hxl3, rfl⟩
  rw [hxl3]
  refine Wx_st (st' := [.long ((1 : Int64) <<< ((iI (v1 * v2)).toInt64 &&& 63))]) rfl ?_
  refine x_genL (fun l3 el3 => ?_)
  refine Wx_st (st' := [.long (l3)]) rfl ?_
  refine x_lconst C dX3_lay_12 ?_
  refine x_eqL (b := 1) rfl ?_
  refine x_lsub C dX3_lay_13 ?_
  refine x_genL (fun l4 el4 => ?_)
  refine x_lstore (lv' := [(5, .long (l4)), (0, .ref 56), (1, .ref 7), (2, .ref 96), (3, .int (iI (sd))), (4, .int (iI (mn)))]) C dX3_lay_14 (nlt rfl) rfl ?_
  refine x_lload C dX3_lay_16 rfl ?_
  refine x_aload_n (i := 1) C dX3_lay_18 rfl rfl ?_
  refine x_getL C fkX_X3_32 (nlt rfl) rfl dX3_lay_19 ?_
  refine x_genL (fun l5 el5 => ?_)
  refine x_ldc2 C dX3_lay_22 cnX3_36 ?_
  refine x_lxor C dX3_lay_25 ?_
  refine x_genL (fun l6 el6 => ?_)
  refine x_land C dX3_lay_26 ?_
  refine x_genL (fun l7 el7 => ?_)
  refine x_lstore (lv' := [(7, .long (l7)), (5, .long (l4)), (0, .ref 56), (1, .ref 7), (2, .ref 96), (3, .int (iI (sd))), (4, .int (iI (mn)))]) C dX3_lay_27 (nlt rfl) rfl ?_
  refine x_aload_n (i := 0) C dX3_lay_29 rfl rfl ?_
  refine x_lconst C dX3_lay_30 ?_
  refine x_eqL (b := 0) rfl ?_
  refine x_putL C pkX_X3_38 (nlt rfl) rfl dX3_lay_31 ?_
  refine x_gX (fun Yy8 eYy8 => ?_)
  have hHy8 : HG vX Yy8 := by
    rw [eYy8]
    exact hg_wLF hH (p := ((-9223372036854775808), 9223372036854775807)) rfl (l64 _)
  have hFy8 : FR (cMd k_X_250) X0 Yy8 := by
    rw [eYy8]
    exact FR.upL hF (rfl)
  replace eYy8 : Yy8 = upL X0 56 2 (0) := eYy8
  refine x_iconst C dX3_lay_34 ?_
  refine x_istore (lv' := [(9, .int (iI (0))), (7, .long (l7)), (5, .long (l4)), (0, .ref 56), (1, .ref 7), (2, .ref 96), (3, .int (iI (sd))), (4, .int (iI (mn)))]) C dX3_lay_35 (nlt rfl) rfl ?_
  refine Wx_pick [9, 7, 0, 1, 2, 3, 4, 5] ?_
  refine Wx_lv (lv' := [(9, .int (iI (0))), (7, .long (l7)), (0, .ref 56), (1, .ref 7), (2, .ref 96), (3, .int (iI (sd))), (4, .int (iI (mn))), (5, .long (l4))]) rfl ?_
  exact xl_lay56_7_96 ss mm C hQ 7 0 _ _ (by omega) (by omega) (by omega) (by rw [el7]; exact m36_and (by rw [el4, el3]; exact m36_all (wh_36 (by omega) (by omega) (by omega) (by omega)))) hHy8 hFy8
set_option maxRecDepth 10000 in
theorem t_X_250 {D : va_G} {ad : Nat → Nat} {cA : Nat → ClassId} : CTR mtX vX gX (wX D ad cA) k_X_250 := by
  intro g X hpre
  obtain ⟨h00, hei, hel, hdl, hH, hE⟩ := hpre
  have h0 : (0 : Int) ≤ g.1 0 ∧ g.1 0 ≤ (0 : Int) := hei 0 _ rfl
  have h1 : ((-2147483648) : Int) ≤ g.1 1 ∧ g.1 1 ≤ (2147483647 : Int) := hei 1 _ rfl
  have h2 : ((-2147483648) : Int) ≤ g.1 2 ∧ g.1 2 ≤ (2147483647 : Int) := hei 2 _ rfl
  refine MetX.imp (fun r X1 hp => ?_) (xf_lay56_7_96 (X0 := X) (sd := g.1 1 + 0) (mn := g.1 2 + 0) ⟨by omega, by omega⟩ ⟨by omega, by omega⟩ hH FR.rf)
  obtain ⟨rfl, hH1, hF1, hG1⟩ := hp
  have e1 := gokX_1 hG1
  exact (altM_mk 0 [1] rfl (ei_cons ⟨by show (0 : Int) ≤ g.1 0; omega, by show g.1 0 ≤ (0 : Int); omega⟩ (ei_cons ⟨by show ((-2147483648) : Int) ≤ g.1 1; omega, by show g.1 1 ≤ (2147483647 : Int); omega⟩ (ei_cons ⟨by show ((-2147483648) : Int) ≤ g.1 2; omega, by show g.1 2 ≤ (2147483647 : Int); omega⟩ (ei_cons ⟨by show (1 : Int) ≤ 1; omega, by show 1 ≤ (1 : Int); omega⟩ ei_nil)))) el_nil (by rfl) (dl_cons (gh_mk rfl (by show gokX 57 58 X1 = (1 : Int) + 0; omega)) dl_nil) gd_nil hH1 (wdX.2.1 X X1 (fun k i hp => hF1 k i (nprX (md := cMd k_X_250) (by decide +kernel) hp)) hE) hF1)
set_option maxHeartbeats 4000000 in
set_option maxRecDepth 100000 in
theorem xl_lay56_7_93 {D : va_G} {ad : Nat → Nat} {cA : Nat → ClassId} {X0 : XT} {all : Int64} {sd mn : Int} (ss : inR sd) (mm : inR mn) {E : ET} (C : CX E (wX D ad cA) cX3_lay 10 RX3 none { frames := 2, cells := 0, slots := 0, locals := 49 }) (hQ : EQ E (wX D ad cA) (fun r X1 => r = none ∧ HG vX X1 ∧ FR (cMd k_X_265) X0 X1 ∧ GOKP 57 58 X1)) : ∀ (n : Nat) (i : Int) (o : Int64) (X : XT), 6 - i < n → 0 ≤ i → i ≤ 6 → m36 o → HG vX X → FR (cMd k_X_265) X0 X → Wx E (wX D ad cA) 10 (PX (wX D ad cA) X) 37 [(9, .int (iI (i))), (7, .long (o)), (0, .ref 56), (1, .ref 7), (2, .ref 93), (3, .int (iI (sd))), (4, .int (iI (mn))), (5, .long (all))] [] := by
  intro n
  induction n with
  | zero => intro i o X hn i0 i1 om hH hF; exfalso; omega
  | succ n ih =>
    intro i o X hn i0 i1 om hH hF
    unfold inR at ss mm
    refine x_iload C dX3_lay_37 rfl ?_
    refine x_aload_n (i := 1) C dX3_lay_39 rfl rfl ?_
    refine x_getI C fkX_X3_41 (nlt rfl) rfl dX3_lay_40 ?_
    refine x_gen (fun v1 ev1 => ?_)
    have qv1 : (0 : Int) ≤ v1 ∧ v1 ≤ (6 : Int) := by
      rw [ev1]
      exact hH.rF (k := 7) (i := 4) rfl rfl
    refine x_icmp_ge (tgt := 113) C dX3_lay_43 (by decide) ⟨by omega, by omega⟩ ⟨by omega, by omega⟩ (fun h2 => ?_) (fun h2 => ?_)
    · refine x_aload_n (i := 0) C dX3_lay_113 rfl rfl ?_
      refine x_aload_n (i := 0) C dX3_lay_114 rfl rfl ?_
      refine x_getL C fkX_X3_38 (nlt rfl) rfl dX3_lay_115 ?_
      refine x_genL (fun l3 el3 => ?_)
      refine x_aload_n (i := 1) C dX3_lay_118 rfl rfl ?_
      refine x_getL C fkX_X3_47 (nlt rfl) rfl dX3_lay_119 ?_
      refine x_genL (fun l4 el4 => ?_)
      refine x_lor C dX3_lay_122 ?_
      refine x_genL (fun l5 el5 => ?_)
      refine x_putL C pkX_X3_50 (nlt rfl) rfl dX3_lay_123 ?_
      refine x_gX (fun Yy6 eYy6 => ?_)
      have hHy6 : HG vX Yy6 := by
        rw [eYy6]
        exact hg_wLF hH (p := ((-9223372036854775808), 9223372036854775807)) rfl (l64 _)
      have hFy6 : FR (cMd k_X_265) X0 Yy6 := by
        rw [eYy6]
        exact FR.upL hF (rfl)
      replace eYy6 : Yy6 = upL X 56 4 (l5) := eYy6
      refine x_aload_n (i := 0) C dX3_lay_126 rfl rfl ?_
      refine x_getRs (r := 58) C fkX_X3_15 (nlt rfl) rfl (HG.rR hHy6 (k := 56) (i := 1) rfl rfl) dX3_lay_127 ?_
      refine x_iconst C dX3_lay_130 ?_
      refine x_aload_n (i := 1) C dX3_lay_131 rfl rfl ?_
      refine x_getI C fkX_X3_19 (nlt rfl) rfl dX3_lay_132 ?_
      refine x_gen (fun v7 ev7 => ?_)
      have qv7 : (0 : Int) ≤ v7 ∧ v7 ≤ (6 : Int) := by
        rw [ev7]
        exact hHy6.rF (k := 7) (i := 0) rfl rfl
      have wv7 : v7 = X0.1 7 0 := by rw [ev7, (hFy6 7 0 rfl).1]
      refine x_ineg C dX3_lay_135 ?_
      refine x_iast C (nlt rfl) rfl rfl (nle rfl) (by omega) (by omega) dX3_lay_136 ?_
      refine x_gX (fun Yy8 eYy8 => ?_)
      have hHy8 : HG vX Yy8 := by
        rw [eYy8]
        exact hg_wA hHy6 (n := 4) (p := ((-6), 6)) (by decide +kernel) (by omega) ⟨by omega, by omega⟩
      have hFy8 : FR (cMd k_X_265) X0 Yy8 := by
        rw [eYy8]
        exact FR.upI hFy6 (rfl)
      replace eYy8 : Yy8 = upI Yy6 58 0 (-v7) := eYy8
      refine x_aload_n (i := 0) C dX3_lay_137 rfl rfl ?_
      refine x_getRs (r := 58) C fkX_X3_15 (nlt rfl) rfl (HG.rR hHy8 (k := 56) (i := 1) rfl rfl) dX3_lay_138 ?_
      refine x_iconst C dX3_lay_141 ?_
      refine x_iconst C dX3_lay_142 ?_
      refine x_iast C (nlt rfl) rfl rfl (nle rfl) (by omega) (by omega) dX3_lay_143 ?_
      refine x_gX (fun Yy9 eYy9 => ?_)
      have hHy9 : HG vX Yy9 := by
        rw [eYy9]
        exact hg_wA hHy8 (n := 4) (p := ((-6), 6)) (by decide +kernel) (by omega) ⟨by omega, by omega⟩
      have hFy9 : FR (cMd k_X_265) X0 Yy9 := by
        rw [eYy9]
        exact FR.upI hFy8 (rfl)
      replace eYy9 : Yy9 = upI Yy8 58 1 (1) := eYy9
      refine x_aload_n (i := 0) C dX3_lay_144 rfl rfl ?_
      refine x_getRs (r := 58) C fkX_X3_15 (nlt rfl) rfl (HG.rR hHy9 (k := 56) (i := 1) rfl rfl) dX3_lay_145 ?_
      refine x_iconst C dX3_lay_148 ?_
      refine x_aload_n (i := 1) C dX3_lay_149 rfl rfl ?_
      refine x_getI C fkX_X3_19 (nlt rfl) rfl dX3_lay_150 ?_
      refine x_gen (fun v10 ev10 => ?_)
      have qv10 : (0 : Int) ≤ v10 ∧ v10 ≤ (6 : Int) := by
        rw [ev10]
        exact hHy9.rF (k := 7) (i := 0) rfl rfl
      have wv10 : v10 = X0.1 7 0 := by rw [ev10, (hFy9 7 0 rfl).1]
      refine x_iast C (nlt rfl) rfl rfl (nle rfl) (by omega) (by omega) dX3_lay_153 ?_
      refine x_gX (fun Yy11 eYy11 => ?_)
      have hHy11 : HG vX Yy11 := by
        rw [eYy11]
        exact hg_wA hHy9 (n := 4) (p := ((-6), 6)) (by decide +kernel) (by omega) ⟨by omega, by omega⟩
      have hFy11 : FR (cMd k_X_265) X0 Yy11 := by
        rw [eYy11]
        exact FR.upI hFy9 (rfl)
      replace eYy11 : Yy11 = upI Yy9 58 2 (v10) := eYy11
      refine x_aload_n (i := 0) C dX3_lay_154 rfl rfl ?_
      refine x_getRs (r := 58) C fkX_X3_15 (nlt rfl) rfl (HG.rR hHy11 (k := 56) (i := 1) rfl rfl) dX3_lay_155 ?_
      refine x_iconst C dX3_lay_158 ?_
      refine x_iconst C dX3_lay_159 ?_
      refine x_iast C (nlt rfl) rfl rfl (nle rfl) (by omega) (by omega) dX3_lay_160 ?_
      refine x_gX (fun Yy12 eYy12 => ?_)
      have hHy12 : HG vX Yy12 := by
        rw [eYy12]
        exact hg_wA hHy11 (n := 4) (p := ((-6), 6)) (by decide +kernel) (by omega) ⟨by omega, by omega⟩
      have hFy12 : FR (cMd k_X_265) X0 Yy12 := by
        rw [eYy12]
        exact FR.upI hFy11 (rfl)
      replace eYy12 : Yy12 = upI Yy11 58 3 ((-1)) := eYy12
      refine x_aload_n (i := 0) C dX3_lay_161 rfl rfl ?_
      refine x_aload_n (i := 1) C dX3_lay_162 rfl rfl ?_
      refine x_lload C dX3_lay_163 rfl ?_
      refine x_lload C dX3_lay_165 rfl ?_
      refine x_callV (As := [.ref 7, .long (all), .long (o)]) C (by exact (xf_layN56_7 (all := all) (op := o) hHy12 FR.rf)) ckX3_53 im_X3_layNeighbours se_X3_layNeighbours (nlt rfl) rfl rfl rfl rfl (nle rfl) (by exact ⟨nle rfl, nle rfl⟩) dX3_lay_167 ?_
      rintro _ Yy13 ⟨rfl, hHy13, hGy13, P0y13, P1y13, P2y13, P3y13⟩
      have hFy13 : FR (cMd k_X_265) X0 Yy13 := FR.tr hFy12 hGy13 (by decide)
      refine Wx_st (st' := []) rfl ?_
      exact x_vret C hQ dX3_lay_170 (⟨rfl, hHy13, hFy13, by (intro s hs j hj ht); (have lt : ∀ i, tb o i = true → i < 36 := fun i hi => by (by_cases q : i < 36); (exact q); (rw [m36_iff.mp om i (by omega)] at hi; cases hi)); (rcases (show s = 0 ∨ s = 1 ∨ s = 2 ∨ s = 3 by omega) with rfl | rfl | rfl | rfl); ((have p := P0y13 j hj ht); (have := lt _ p.2); (rw [(hGy13 58 0 rfl).1, eYy12, upI_ne (by decide), eYy11, upI_ne (by decide), eYy9, upI_ne (by decide), eYy8, upI_at]); (have p1 := p.1); (have wq := (show Yy12.1 7 0 = v10 by rw [(hFy12 7 0 rfl).1, wv10])); (rw [wq] at this p1); (omega)); ((have := lt _ (P1y13 j hj ht)); (rw [(hGy13 58 1 rfl).1, eYy12, upI_ne (by decide), eYy11, upI_ne (by decide), eYy9, upI_at]); (omega)); ((have := lt _ (P2y13 j hj ht)); (rw [(hGy13 58 2 rfl).1, eYy12, upI_ne (by decide), eYy11, upI_at]); (have wq := (show Yy12.1 7 0 = v10 by rw [(hFy12 7 0 rfl).1, wv10])); (rw [wq] at this); (omega)); ((have p := P3y13 j hj ht); (have := lt _ p.2); (rw [(hGy13 58 3 rfl).1, eYy12, upI_at]); (have p1 := p.1); (omega))⟩)
    · refine x_iload C dX3_lay_46 rfl ?_
      refine x_iload C dX3_lay_48 rfl ?_
      refine x_icmp_eq (tgt := 107) C dX3_lay_50 (by decide) ⟨by omega, by omega⟩ ⟨by omega, by omega⟩ (fun h14 => ?_) (fun h14 => ?_)
      · refine x_iinc (lv' := [(9, .int (iI (i + 1))), (7, .long (o)), (0, .ref 56), (1, .ref 7), (2, .ref 93), (3, .int (iI (sd))), (4, .int (iI (mn))), (5, .long (all))]) C dX3_lay_107 rfl (nlt rfl) rfl ?_
        refine x_goto (tgt := 37) C dX3_lay_110 (by decide) ?_
        refine Wx_pick [9, 7, 0, 1, 2, 3, 4, 5] ?_
        refine Wx_lv (lv' := [(9, .int (iI (i + 1))), (7, .long (o)), (0, .ref 56), (1, .ref 7), (2, .ref 93), (3, .int (iI (sd))), (4, .int (iI (mn))), (5, .long (all))]) rfl ?_
        exact ih _ _ _ (by omega) (by omega) (by omega) om hH hF
      · refine x_aload_n (i := 2) C dX3_lay_53 rfl rfl ?_
        refine x_iload C dX3_lay_54 rfl ?_
        refine x_iald C (nlt rfl) rfl rfl (nle rfl) (by omega) (by omega) dX3_lay_56 ?_
        refine x_gen (fun v15 ev15 => ?_)
        have qv15 : ((-2147483648) : Int) ≤ v15 ∧ v15 ≤ (2147483647 : Int) := by
          rw [ev15]
          exact hH.rA (k := 93) (n := 6) (p := ((-2147483648), 2147483647)) (nlt rfl) rfl (by decide +kernel) (by omega)
        refine x_iconst C dX3_lay_57 ?_
        refine x_icmp_eq (tgt := 107) C dX3_lay_58 (by decide) ⟨by omega, by omega⟩ ⟨by omega, by omega⟩ (fun h16 => ?_) (fun h16 => ?_)
        · refine x_iinc (lv' := [(9, .int (iI (i + 1))), (7, .long (o)), (0, .ref 56), (1, .ref 7), (2, .ref 93), (3, .int (iI (sd))), (4, .int (iI (mn))), (5, .long (all))]) C dX3_lay_107 rfl (nlt rfl) rfl ?_
          refine x_goto (tgt := 37) C dX3_lay_110 (by decide) ?_
          refine Wx_pick [9, 7, 0, 1, 2, 3, 4, 5] ?_
          refine Wx_lv (lv' := [(9, .int (iI (i + 1))), (7, .long (o)), (0, .ref 56), (1, .ref 7), (2, .ref 93), (3, .int (iI (sd))), (4, .int (iI (mn))), (5, .long (all))]) rfl ?_
          exact ih _ _ _ (by omega) (by omega) (by omega) om hH hF
        · refine x_aload_n (i := 1) C dX3_lay_61 rfl rfl ?_
          refine x_getRs (r := 8) C fkX_X3_44 (nlt rfl) rfl (HG.rR hH (k := 7) (i := 5) rfl rfl) dX3_lay_62 ?_
          refine x_iload C dX3_lay_65 rfl ?_
          refine x_iald C (nlt rfl) rfl rfl (nle rfl) (by omega) (by omega) dX3_lay_67 ?_
          refine x_gen (fun v17 ev17 => ?_)
          have qv17 : ((-2147483648) : Int) ≤ v17 ∧ v17 ≤ (2147483647 : Int) := by
            rw [ev17]
            exact hH.rA (k := 8) (n := 6) (p := ((-2147483648), 2147483647)) (nlt rfl) rfl (by decide +kernel) (by omega)
          refine x_iload_n (i := 3) C dX3_lay_68 rfl rfl ?_
          refine x_icmp_ne (tgt := 91) C dX3_lay_69 (by decide) ⟨by omega, by omega⟩ ⟨by omega, by omega⟩ (fun h18 => ?_) (fun h18 => ?_)
          · refine x_aload_n (i := 0) C dX3_lay_91 rfl rfl ?_
            refine x_dup C dX3_lay_92 rfl ?_
            refine x_getL C fkX_X3_38 (nlt rfl) rfl dX3_lay_93 ?_
            refine x_genL (fun l19 el19 => ?_)
            refine x_aload_n (i := 2) C dX3_lay_96 rfl rfl ?_
            refine x_iload C dX3_lay_97 rfl ?_
            refine x_iald C (nlt rfl) rfl rfl (nle rfl) (by omega) (by omega) dX3_lay_99 ?_
            refine x_gen (fun v20 ev20 => ?_)
            have qv20 : ((-2147483648) : Int) ≤ v20 ∧ v20 ≤ (2147483647 : Int) := by
              rw [ev20]
              exact hH.rA (k := 93) (n := 6) (p := ((-2147483648), 2147483647)) (nlt rfl) rfl (by decide +kernel) (by omega)
            refine x_callSN (As := [.int (iI (v20))]) C (by exact (xf_bit (f := v20))) cnX3_28 rfl rfl (nle rfl) (by exact ⟨nle rfl, nle rfl⟩) dX3_lay_100 ?_
            rintro _ Xl21 ⟨hxl21, rfl⟩
            rw [hxl21]
            refine Wx_st (st' := [.long ((1 : Int64) <<< ((iI (v20)).toInt64 &&& 63)), .long (l19), .ref 56]) rfl ?_
            refine x_genL (fun l21 el21 => ?_)
            refine Wx_st (st' := [.long (l21), .long (l19), .ref 56]) rfl ?_
            refine x_lor C dX3_lay_103 ?_
            refine x_genL (fun l22 el22 => ?_)
            refine x_putL C pkX_X3_38 (nlt rfl) rfl dX3_lay_104 ?_
            refine x_gX (fun Yy23 eYy23 => ?_)
            have hHy23 : HG vX Yy23 := by
              rw [eYy23]
              exact hg_wLF hH (p := ((-9223372036854775808), 9223372036854775807)) rfl (l64 _)
            have hFy23 : FR (cMd k_X_265) X0 Yy23 := by
              rw [eYy23]
              exact FR.upL hF (rfl)
            replace eYy23 : Yy23 = upL X 56 2 (l22) := eYy23
            refine x_iinc (lv' := [(9, .int (iI (i + 1))), (7, .long (o)), (0, .ref 56), (1, .ref 7), (2, .ref 93), (3, .int (iI (sd))), (4, .int (iI (mn))), (5, .long (all))]) C dX3_lay_107 rfl (nlt rfl) rfl ?_
            refine x_goto (tgt := 37) C dX3_lay_110 (by decide) ?_
            refine Wx_pick [9, 7, 0, 1, 2, 3, 4, 5] ?_
            refine Wx_lv (lv' := [(9, .int (iI (i + 1))), (7, .long (o)), (0, .ref 56), (1, .ref 7), (2, .ref 93), (3, .int (iI (sd))), (4, .int (iI (mn))), (5, .long (all))]) rfl ?_
            exact ih _ _ _ (by omega) (by omega) (by omega) om hHy23 hFy23
          · refine x_lload C dX3_lay_72 rfl ?_
            refine x_aload_n (i := 2) C dX3_lay_74 rfl rfl ?_
            refine x_iload C dX3_lay_75 rfl ?_
            refine x_iald C (nlt rfl) rfl rfl (nle rfl) (by omega) (by omega) dX3_lay_77 ?_
            refine x_gen (fun v24 ev24 => ?_)
            have qv24 : ((-2147483648) : Int) ≤ v24 ∧ v24 ≤ (2147483647 : Int) := by
              rw [ev24]
              exact hH.rA (k := 93) (n := 6) (p := ((-2147483648), 2147483647)) (nlt rfl) rfl (by decide +kernel) (by omega)
            refine x_callSN (As := [.int (iI (v24))]) C (by exact (xf_bit (f := v24))) cnX3_28 rfl rfl (nle rfl) (by exact ⟨nle rfl, nle rfl⟩) dX3_lay_78 ?_
            rintro _ Xl25 ⟨hxl25, rfl⟩
            rw [hxl25]
            refine Wx_st (st' := [.long ((1 : Int64) <<< ((iI (v24)).toInt64 &&& 63)), .long (o)]) rfl ?_
            refine x_genL (fun l25 el25 => ?_)
            refine Wx_st (st' := [.long (l25), .long (o)]) rfl ?_
            refine x_ldc2 C dX3_lay_81 cnX3_36 ?_
            refine x_lxor C dX3_lay_84 ?_
            refine x_genL (fun l26 el26 => ?_)
            refine x_land C dX3_lay_85 ?_
            refine x_genL (fun l27 el27 => ?_)
            refine x_lstore (lv' := [(7, .long (l27)), (9, .int (iI (i))), (0, .ref 56), (1, .ref 7), (2, .ref 93), (3, .int (iI (sd))), (4, .int (iI (mn))), (5, .long (all))]) C dX3_lay_86 (nlt rfl) rfl ?_
            refine x_goto (tgt := 107) C dX3_lay_88 (by decide) ?_
            refine x_iinc (lv' := [(9, .int (iI (i + 1))), (7, .long (l27)), (0, .ref 56), (1, .ref 7), (2, .ref 93), (3, .int (iI (sd))), (4, .int (iI (mn))), (5, .long (all))]) C dX3_lay_107 rfl (nlt rfl) rfl ?_
            refine x_goto (tgt := 37) C dX3_lay_110 (by decide) ?_
            refine Wx_pick [9, 7, 0, 1, 2, 3, 4, 5] ?_
            refine Wx_lv (lv' := [(9, .int (iI (i + 1))), (7, .long (l27)), (0, .ref 56), (1, .ref 7), (2, .ref 93), (3, .int (iI (sd))), (4, .int (iI (mn))), (5, .long (all))]) rfl ?_
            exact ih _ _ _ (by omega) (by omega) (by omega) (by rw [el27]; exact m36_and om) hH hF
set_option maxHeartbeats 4000000 in
set_option maxRecDepth 100000 in
theorem xf_lay56_7_93 {D : va_G} {ad : Nat → Nat} {cA : Nat → ClassId} {X0 : XT} {sd mn : Int} (ss : inR sd) (mm : inR mn) (hH : HG vX X0) (hF : FR (cMd k_X_265) X0 X0) : MetX (wX D ad cA) yX3_lay cX3_lay 10 none 2 49 [.ref 56, .ref 7, .ref 93, .int (iI (sd)), .int (iI (mn))] X0 (fun r X1 => r = none ∧ HG vX X1 ∧ FR (cMd k_X_265) X0 X1 ∧ GOKP 57 58 X1) := by
  have ss' := ss
  have mm' := mm
  unfold inR at ss' mm'
  refine MetX.mk (own := RX3) (by decide +kernel) rfl (nle rfl) (fun E C hQ => ?_)
  refine Wx_lv (lv' := [(0, .ref 56), (1, .ref 7), (2, .ref 93), (3, .int (iI (sd))), (4, .int (iI (mn)))]) rfl ?_
  refine x_aload_n (i := 1) C dX3_lay_0 rfl rfl ?_
  refine x_getI C fkX_X3_19 (nlt rfl) rfl dX3_lay_1 ?_
  refine x_gen (fun v1 ev1 => ?_)
  have qv1 : (0 : Int) ≤ v1 ∧ v1 ≤ (6 : Int) := by
    rw [ev1]
    exact hH.rF (k := 7) (i := 0) rfl rfl
  refine x_aload_n (i := 1) C dX3_lay_4 rfl rfl ?_
  refine x_getI C fkX_X3_25 (nlt rfl) rfl dX3_lay_5 ?_
  refine x_gen (fun v2 ev2 => ?_)
  have qv2 : (0 : Int) ≤ v2 ∧ v2 ≤ (6 : Int) := by
    rw [ev2]
    exact hH.rF (k := 7) (i := 1) rfl rfl
  refine x_imul C dX3_lay_8 ?_
  refine x_callSN (As := [.int (iI (v1 * v2))]) C (by exact (xf_bit (f := v1 * v2))) cnX3_28 rfl rfl (nle rfl) (by exact ⟨nle rfl, nle rfl⟩) dX3_lay_9 ?_
  rintro _ Xl3 ⟨hxl3, rfl⟩
  rw [hxl3]
  refine Wx_st (st' := [.long ((1 : Int64) <<< ((iI (v1 * v2)).toInt64 &&& 63))]) rfl ?_
  refine x_genL (fun l3 el3 => ?_)
  refine Wx_st (st' := [.long (l3)]) rfl ?_
  refine x_lconst C dX3_lay_12 ?_
  refine x_eqL (b := 1) rfl ?_
  refine x_lsub C dX3_lay_13 ?_
  refine x_genL (fun l4 el4 => ?_)
  refine x_lstore (lv' := [(5, .long (l4)), (0, .ref 56), (1, .ref 7), (2, .ref 93), (3, .int (iI (sd))), (4, .int (iI (mn)))]) C dX3_lay_14 (nlt rfl) rfl ?_
  refine x_lload C dX3_lay_16 rfl ?_
  refine x_aload_n (i := 1) C dX3_lay_18 rfl rfl ?_
  refine x_getL C fkX_X3_32 (nlt rfl) rfl dX3_lay_19 ?_
  refine x_genL (fun l5 el5 => ?_)
  refine x_ldc2 C dX3_lay_22 cnX3_36 ?_
  refine x_lxor C dX3_lay_25 ?_
  refine x_genL (fun l6 el6 => ?_)
  refine x_land C dX3_lay_26 ?_
  refine x_genL (fun l7 el7 => ?_)
  refine x_lstore (lv' := [(7, .long (l7)), (5, .long (l4)), (0, .ref 56), (1, .ref 7), (2, .ref 93), (3, .int (iI (sd))), (4, .int (iI (mn)))]) C dX3_lay_27 (nlt rfl) rfl ?_
  refine x_aload_n (i := 0) C dX3_lay_29 rfl rfl ?_
  refine x_lconst C dX3_lay_30 ?_
  refine x_eqL (b := 0) rfl ?_
  refine x_putL C pkX_X3_38 (nlt rfl) rfl dX3_lay_31 ?_
  refine x_gX (fun Yy8 eYy8 => ?_)
  have hHy8 : HG vX Yy8 := by
    rw [eYy8]
    exact hg_wLF hH (p := ((-9223372036854775808), 9223372036854775807)) rfl (l64 _)
  have hFy8 : FR (cMd k_X_265) X0 Yy8 := by
    rw [eYy8]
    exact FR.upL hF (rfl)
  replace eYy8 : Yy8 = upL X0 56 2 (0) := eYy8
  refine x_iconst C dX3_lay_34 ?_
  refine x_istore (lv' := [(9, .int (iI (0))), (7, .long (l7)), (5, .long (l4)), (0, .ref 56), (1, .ref 7), (2, .ref 93), (3, .int (iI (sd))), (4, .int (iI (mn)))]) C dX3_lay_35 (nlt rfl) rfl ?_
  refine Wx_pick [9, 7, 0, 1, 2, 3, 4, 5] ?_
  refine Wx_lv (lv' := [(9, .int (iI (0))), (7, .long (l7)), (0, .ref 56), (1, .ref 7), (2, .ref 93), (3, .int (iI (sd))), (4, .int (iI (mn))), (5, .long (l4))]) rfl ?_
  exact xl_lay56_7_93 ss mm C hQ 7 0 _ _ (by omega) (by omega) (by omega) (by rw [el7]; exact m36_and (by rw [el4, el3]; exact m36_all (wh_36 (by omega) (by omega) (by omega) (by omega)))) hHy8 hFy8
set_option maxRecDepth 10000 in
theorem t_X_265 {D : va_G} {ad : Nat → Nat} {cA : Nat → ClassId} : CTR mtX vX gX (wX D ad cA) k_X_265 := by
  intro g X hpre
  obtain ⟨h00, hei, hel, hdl, hH, hE⟩ := hpre
  have h0 : (0 : Int) ≤ g.1 0 ∧ g.1 0 ≤ (0 : Int) := hei 0 _ rfl
  have h1 : ((-2147483648) : Int) ≤ g.1 1 ∧ g.1 1 ≤ (2147483647 : Int) := hei 1 _ rfl
  have h2 : ((-2147483648) : Int) ≤ g.1 2 ∧ g.1 2 ≤ (2147483647 : Int) := hei 2 _ rfl
  refine MetX.imp (fun r X1 hp => ?_) (xf_lay56_7_93 (X0 := X) (sd := g.1 1 + 0) (mn := g.1 2 + 0) ⟨by omega, by omega⟩ ⟨by omega, by omega⟩ hH FR.rf)
  obtain ⟨rfl, hH1, hF1, hG1⟩ := hp
  have e1 := gokX_1 hG1
  exact (altM_mk 0 [1] rfl (ei_cons ⟨by show (0 : Int) ≤ g.1 0; omega, by show g.1 0 ≤ (0 : Int); omega⟩ (ei_cons ⟨by show ((-2147483648) : Int) ≤ g.1 1; omega, by show g.1 1 ≤ (2147483647 : Int); omega⟩ (ei_cons ⟨by show ((-2147483648) : Int) ≤ g.1 2; omega, by show g.1 2 ≤ (2147483647 : Int); omega⟩ (ei_cons ⟨by show (1 : Int) ≤ 1; omega, by show 1 ≤ (1 : Int); omega⟩ ei_nil)))) el_nil (by rfl) (dl_cons (gh_mk rfl (by show gokX 57 58 X1 = (1 : Int) + 0; omega)) dl_nil) gd_nil hH1 (wdX.2.1 X X1 (fun k i hp => hF1 k i (nprX (md := cMd k_X_265) (by decide +kernel) hp)) hE) hF1)
set_option maxHeartbeats 4000000 in
set_option maxRecDepth 100000 in
theorem xl_lay56_10_102 {D : va_G} {ad : Nat → Nat} {cA : Nat → ClassId} {X0 : XT} {all : Int64} {sd mn : Int} (ss : inR sd) (mm : inR mn) {E : ET} (C : CX E (wX D ad cA) cX3_lay 10 RX3 none { frames := 2, cells := 0, slots := 0, locals := 49 }) (hQ : EQ E (wX D ad cA) (fun r X1 => r = none ∧ HG vX X1 ∧ FR (cMd k_X_308) X0 X1 ∧ GOKP 57 58 X1)) : ∀ (n : Nat) (i : Int) (o : Int64) (X : XT), 6 - i < n → 0 ≤ i → i ≤ 6 → m36 o → HG vX X → FR (cMd k_X_308) X0 X → Wx E (wX D ad cA) 10 (PX (wX D ad cA) X) 37 [(9, .int (iI (i))), (7, .long (o)), (0, .ref 56), (1, .ref 10), (2, .ref 102), (3, .int (iI (sd))), (4, .int (iI (mn))), (5, .long (all))] [] := by
  intro n
  induction n with
  | zero => intro i o X hn i0 i1 om hH hF; exfalso; omega
  | succ n ih =>
    intro i o X hn i0 i1 om hH hF
    unfold inR at ss mm
    refine x_iload C dX3_lay_37 rfl ?_
    refine x_aload_n (i := 1) C dX3_lay_39 rfl rfl ?_
    refine x_getI C fkX_X3_41 (nlt rfl) rfl dX3_lay_40 ?_
    refine x_gen (fun v1 ev1 => ?_)
    have qv1 : (0 : Int) ≤ v1 ∧ v1 ≤ (6 : Int) := by
      rw [ev1]
      exact hH.rF (k := 10) (i := 4) rfl rfl
    refine x_icmp_ge (tgt := 113) C dX3_lay_43 (by decide) ⟨by omega, by omega⟩ ⟨by omega, by omega⟩ (fun h2 => ?_) (fun h2 => ?_)
    · refine x_aload_n (i := 0) C dX3_lay_113 rfl rfl ?_
      refine x_aload_n (i := 0) C dX3_lay_114 rfl rfl ?_
      refine x_getL C fkX_X3_38 (nlt rfl) rfl dX3_lay_115 ?_
      refine x_genL (fun l3 el3 => ?_)
      refine x_aload_n (i := 1) C dX3_lay_118 rfl rfl ?_
      refine x_getL C fkX_X3_47 (nlt rfl) rfl dX3_lay_119 ?_
      refine x_genL (fun l4 el4 => ?_)
      refine x_lor C dX3_lay_122 ?_
      refine x_genL (fun l5 el5 => ?_)
      refine x_putL C pkX_X3_50 (nlt rfl) rfl dX3_lay_123 ?_
      refine x_gX (fun Yy6 eYy6 => ?_)
      have hHy6 : HG vX Yy6 := by
        rw [eYy6]
        exact hg_wLF hH (p := ((-9223372036854775808), 9223372036854775807)) rfl (l64 _)
      have hFy6 : FR (cMd k_X_308) X0 Yy6 := by
        rw [eYy6]
        exact FR.upL hF (rfl)
      replace eYy6 : Yy6 = upL X 56 4 (l5) := eYy6
      refine x_aload_n (i := 0) C dX3_lay_126 rfl rfl ?_
      refine x_getRs (r := 58) C fkX_X3_15 (nlt rfl) rfl (HG.rR hHy6 (k := 56) (i := 1) rfl rfl) dX3_lay_127 ?_
      refine x_iconst C dX3_lay_130 ?_
      refine x_aload_n (i := 1) C dX3_lay_131 rfl rfl ?_
      refine x_getI C fkX_X3_19 (nlt rfl) rfl dX3_lay_132 ?_
      refine x_gen (fun v7 ev7 => ?_)
      have qv7 : (0 : Int) ≤ v7 ∧ v7 ≤ (6 : Int) := by
        rw [ev7]
        exact hHy6.rF (k := 10) (i := 0) rfl rfl
      have wv7 : v7 = X0.1 10 0 := by rw [ev7, (hFy6 10 0 rfl).1]
      refine x_ineg C dX3_lay_135 ?_
      refine x_iast C (nlt rfl) rfl rfl (nle rfl) (by omega) (by omega) dX3_lay_136 ?_
      refine x_gX (fun Yy8 eYy8 => ?_)
      have hHy8 : HG vX Yy8 := by
        rw [eYy8]
        exact hg_wA hHy6 (n := 4) (p := ((-6), 6)) (by decide +kernel) (by omega) ⟨by omega, by omega⟩
      have hFy8 : FR (cMd k_X_308) X0 Yy8 := by
        rw [eYy8]
        exact FR.upI hFy6 (rfl)
      replace eYy8 : Yy8 = upI Yy6 58 0 (-v7) := eYy8
      refine x_aload_n (i := 0) C dX3_lay_137 rfl rfl ?_
      refine x_getRs (r := 58) C fkX_X3_15 (nlt rfl) rfl (HG.rR hHy8 (k := 56) (i := 1) rfl rfl) dX3_lay_138 ?_
      refine x_iconst C dX3_lay_141 ?_
      refine x_iconst C dX3_lay_142 ?_
      refine x_iast C (nlt rfl) rfl rfl (nle rfl) (by omega) (by omega) dX3_lay_143 ?_
      refine x_gX (fun Yy9 eYy9 => ?_)
      have hHy9 : HG vX Yy9 := by
        rw [eYy9]
        exact hg_wA hHy8 (n := 4) (p := ((-6), 6)) (by decide +kernel) (by omega) ⟨by omega, by omega⟩
      have hFy9 : FR (cMd k_X_308) X0 Yy9 := by
        rw [eYy9]
        exact FR.upI hFy8 (rfl)
      replace eYy9 : Yy9 = upI Yy8 58 1 (1) := eYy9
      refine x_aload_n (i := 0) C dX3_lay_144 rfl rfl ?_
      refine x_getRs (r := 58) C fkX_X3_15 (nlt rfl) rfl (HG.rR hHy9 (k := 56) (i := 1) rfl rfl) dX3_lay_145 ?_
      refine x_iconst C dX3_lay_148 ?_
      refine x_aload_n (i := 1) C dX3_lay_149 rfl rfl ?_
      refine x_getI C fkX_X3_19 (nlt rfl) rfl dX3_lay_150 ?_
      refine x_gen (fun v10 ev10 => ?_)
      have qv10 : (0 : Int) ≤ v10 ∧ v10 ≤ (6 : Int) := by
        rw [ev10]
        exact hHy9.rF (k := 10) (i := 0) rfl rfl
      have wv10 : v10 = X0.1 10 0 := by rw [ev10, (hFy9 10 0 rfl).1]
      refine x_iast C (nlt rfl) rfl rfl (nle rfl) (by omega) (by omega) dX3_lay_153 ?_
      refine x_gX (fun Yy11 eYy11 => ?_)
      have hHy11 : HG vX Yy11 := by
        rw [eYy11]
        exact hg_wA hHy9 (n := 4) (p := ((-6), 6)) (by decide +kernel) (by omega) ⟨by omega, by omega⟩
      have hFy11 : FR (cMd k_X_308) X0 Yy11 := by
        rw [eYy11]
        exact FR.upI hFy9 (rfl)
      replace eYy11 : Yy11 = upI Yy9 58 2 (v10) := eYy11
      refine x_aload_n (i := 0) C dX3_lay_154 rfl rfl ?_
      refine x_getRs (r := 58) C fkX_X3_15 (nlt rfl) rfl (HG.rR hHy11 (k := 56) (i := 1) rfl rfl) dX3_lay_155 ?_
      refine x_iconst C dX3_lay_158 ?_
      refine x_iconst C dX3_lay_159 ?_
      refine x_iast C (nlt rfl) rfl rfl (nle rfl) (by omega) (by omega) dX3_lay_160 ?_
      refine x_gX (fun Yy12 eYy12 => ?_)
      have hHy12 : HG vX Yy12 := by
        rw [eYy12]
        exact hg_wA hHy11 (n := 4) (p := ((-6), 6)) (by decide +kernel) (by omega) ⟨by omega, by omega⟩
      have hFy12 : FR (cMd k_X_308) X0 Yy12 := by
        rw [eYy12]
        exact FR.upI hFy11 (rfl)
      replace eYy12 : Yy12 = upI Yy11 58 3 ((-1)) := eYy12
      refine x_aload_n (i := 0) C dX3_lay_161 rfl rfl ?_
      refine x_aload_n (i := 1) C dX3_lay_162 rfl rfl ?_
      refine x_lload C dX3_lay_163 rfl ?_
      refine x_lload C dX3_lay_165 rfl ?_
      refine x_callV (As := [.ref 10, .long (all), .long (o)]) C (by exact (xf_layN56_10 (all := all) (op := o) hHy12 FR.rf)) ckX3_53 im_X3_layNeighbours se_X3_layNeighbours (nlt rfl) rfl rfl rfl rfl (nle rfl) (by exact ⟨nle rfl, nle rfl⟩) dX3_lay_167 ?_
      rintro _ Yy13 ⟨rfl, hHy13, hGy13, P0y13, P1y13, P2y13, P3y13⟩
      have hFy13 : FR (cMd k_X_308) X0 Yy13 := FR.tr hFy12 hGy13 (by decide)
      refine Wx_st (st' := []) rfl ?_
      exact x_vret C hQ dX3_lay_170 (⟨rfl, hHy13, hFy13, by (intro s hs j hj ht); (have lt : ∀ i, tb o i = true → i < 36 := fun i hi => by (by_cases q : i < 36); (exact q); (rw [m36_iff.mp om i (by omega)] at hi; cases hi)); (rcases (show s = 0 ∨ s = 1 ∨ s = 2 ∨ s = 3 by omega) with rfl | rfl | rfl | rfl); ((have p := P0y13 j hj ht); (have := lt _ p.2); (rw [(hGy13 58 0 rfl).1, eYy12, upI_ne (by decide), eYy11, upI_ne (by decide), eYy9, upI_ne (by decide), eYy8, upI_at]); (have p1 := p.1); (have wq := (show Yy12.1 10 0 = v10 by rw [(hFy12 10 0 rfl).1, wv10])); (rw [wq] at this p1); (omega)); ((have := lt _ (P1y13 j hj ht)); (rw [(hGy13 58 1 rfl).1, eYy12, upI_ne (by decide), eYy11, upI_ne (by decide), eYy9, upI_at]); (omega)); ((have := lt _ (P2y13 j hj ht)); (rw [(hGy13 58 2 rfl).1, eYy12, upI_ne (by decide), eYy11, upI_at]); (have wq := (show Yy12.1 10 0 = v10 by rw [(hFy12 10 0 rfl).1, wv10])); (rw [wq] at this); (omega)); ((have p := P3y13 j hj ht); (have := lt _ p.2); (rw [(hGy13 58 3 rfl).1, eYy12, upI_at]); (have p1 := p.1); (omega))⟩)
    · refine x_iload C dX3_lay_46 rfl ?_
      refine x_iload C dX3_lay_48 rfl ?_
      refine x_icmp_eq (tgt := 107) C dX3_lay_50 (by decide) ⟨by omega, by omega⟩ ⟨by omega, by omega⟩ (fun h14 => ?_) (fun h14 => ?_)
      · refine x_iinc (lv' := [(9, .int (iI (i + 1))), (7, .long (o)), (0, .ref 56), (1, .ref 10), (2, .ref 102), (3, .int (iI (sd))), (4, .int (iI (mn))), (5, .long (all))]) C dX3_lay_107 rfl (nlt rfl) rfl ?_
        refine x_goto (tgt := 37) C dX3_lay_110 (by decide) ?_
        refine Wx_pick [9, 7, 0, 1, 2, 3, 4, 5] ?_
        refine Wx_lv (lv' := [(9, .int (iI (i + 1))), (7, .long (o)), (0, .ref 56), (1, .ref 10), (2, .ref 102), (3, .int (iI (sd))), (4, .int (iI (mn))), (5, .long (all))]) rfl ?_
        exact ih _ _ _ (by omega) (by omega) (by omega) om hH hF
      · refine x_aload_n (i := 2) C dX3_lay_53 rfl rfl ?_
        refine x_iload C dX3_lay_54 rfl ?_
        refine x_iald C (nlt rfl) rfl rfl (nle rfl) (by omega) (by omega) dX3_lay_56 ?_
        refine x_gen (fun v15 ev15 => ?_)
        have qv15 : ((-2147483648) : Int) ≤ v15 ∧ v15 ≤ (2147483647 : Int) := by
          rw [ev15]
          exact hH.rA (k := 102) (n := 6) (p := ((-2147483648), 2147483647)) (nlt rfl) rfl (by decide +kernel) (by omega)
        refine x_iconst C dX3_lay_57 ?_
        refine x_icmp_eq (tgt := 107) C dX3_lay_58 (by decide) ⟨by omega, by omega⟩ ⟨by omega, by omega⟩ (fun h16 => ?_) (fun h16 => ?_)
        · refine x_iinc (lv' := [(9, .int (iI (i + 1))), (7, .long (o)), (0, .ref 56), (1, .ref 10), (2, .ref 102), (3, .int (iI (sd))), (4, .int (iI (mn))), (5, .long (all))]) C dX3_lay_107 rfl (nlt rfl) rfl ?_
          refine x_goto (tgt := 37) C dX3_lay_110 (by decide) ?_
          refine Wx_pick [9, 7, 0, 1, 2, 3, 4, 5] ?_
          refine Wx_lv (lv' := [(9, .int (iI (i + 1))), (7, .long (o)), (0, .ref 56), (1, .ref 10), (2, .ref 102), (3, .int (iI (sd))), (4, .int (iI (mn))), (5, .long (all))]) rfl ?_
          exact ih _ _ _ (by omega) (by omega) (by omega) om hH hF
        · refine x_aload_n (i := 1) C dX3_lay_61 rfl rfl ?_
          refine x_getRs (r := 11) C fkX_X3_44 (nlt rfl) rfl (HG.rR hH (k := 10) (i := 5) rfl rfl) dX3_lay_62 ?_
          refine x_iload C dX3_lay_65 rfl ?_
          refine x_iald C (nlt rfl) rfl rfl (nle rfl) (by omega) (by omega) dX3_lay_67 ?_
          refine x_gen (fun v17 ev17 => ?_)
          have qv17 : ((-2147483648) : Int) ≤ v17 ∧ v17 ≤ (2147483647 : Int) := by
            rw [ev17]
            exact hH.rA (k := 11) (n := 6) (p := ((-2147483648), 2147483647)) (nlt rfl) rfl (by decide +kernel) (by omega)
          refine x_iload_n (i := 3) C dX3_lay_68 rfl rfl ?_
          refine x_icmp_ne (tgt := 91) C dX3_lay_69 (by decide) ⟨by omega, by omega⟩ ⟨by omega, by omega⟩ (fun h18 => ?_) (fun h18 => ?_)
          · refine x_aload_n (i := 0) C dX3_lay_91 rfl rfl ?_
            refine x_dup C dX3_lay_92 rfl ?_
            refine x_getL C fkX_X3_38 (nlt rfl) rfl dX3_lay_93 ?_
            refine x_genL (fun l19 el19 => ?_)
            refine x_aload_n (i := 2) C dX3_lay_96 rfl rfl ?_
            refine x_iload C dX3_lay_97 rfl ?_
            refine x_iald C (nlt rfl) rfl rfl (nle rfl) (by omega) (by omega) dX3_lay_99 ?_
            refine x_gen (fun v20 ev20 => ?_)
            have qv20 : ((-2147483648) : Int) ≤ v20 ∧ v20 ≤ (2147483647 : Int) := by
              rw [ev20]
              exact hH.rA (k := 102) (n := 6) (p := ((-2147483648), 2147483647)) (nlt rfl) rfl (by decide +kernel) (by omega)
            refine x_callSN (As := [.int (iI (v20))]) C (by exact (xf_bit (f := v20))) cnX3_28 rfl rfl (nle rfl) (by exact ⟨nle rfl, nle rfl⟩) dX3_lay_100 ?_
            rintro _ Xl21 ⟨hxl21, rfl⟩
            rw [hxl21]
            refine Wx_st (st' := [.long ((1 : Int64) <<< ((iI (v20)).toInt64 &&& 63)), .long (l19), .ref 56]) rfl ?_
            refine x_genL (fun l21 el21 => ?_)
            refine Wx_st (st' := [.long (l21), .long (l19), .ref 56]) rfl ?_
            refine x_lor C dX3_lay_103 ?_
            refine x_genL (fun l22 el22 => ?_)
            refine x_putL C pkX_X3_38 (nlt rfl) rfl dX3_lay_104 ?_
            refine x_gX (fun Yy23 eYy23 => ?_)
            have hHy23 : HG vX Yy23 := by
              rw [eYy23]
              exact hg_wLF hH (p := ((-9223372036854775808), 9223372036854775807)) rfl (l64 _)
            have hFy23 : FR (cMd k_X_308) X0 Yy23 := by
              rw [eYy23]
              exact FR.upL hF (rfl)
            replace eYy23 : Yy23 = upL X 56 2 (l22) := eYy23
            refine x_iinc (lv' := [(9, .int (iI (i + 1))), (7, .long (o)), (0, .ref 56), (1, .ref 10), (2, .ref 102), (3, .int (iI (sd))), (4, .int (iI (mn))), (5, .long (all))]) C dX3_lay_107 rfl (nlt rfl) rfl ?_
            refine x_goto (tgt := 37) C dX3_lay_110 (by decide) ?_
            refine Wx_pick [9, 7, 0, 1, 2, 3, 4, 5] ?_
            refine Wx_lv (lv' := [(9, .int (iI (i + 1))), (7, .long (o)), (0, .ref 56), (1, .ref 10), (2, .ref 102), (3, .int (iI (sd))), (4, .int (iI (mn))), (5, .long (all))]) rfl ?_
            exact ih _ _ _ (by omega) (by omega) (by omega) om hHy23 hFy23
          · refine x_lload C dX3_lay_72 rfl ?_
            refine x_aload_n (i := 2) C dX3_lay_74 rfl rfl ?_
            refine x_iload C dX3_lay_75 rfl ?_
            refine x_iald C (nlt rfl) rfl rfl (nle rfl) (by omega) (by omega) dX3_lay_77 ?_
            refine x_gen (fun v24 ev24 => ?_)
            have qv24 : ((-2147483648) : Int) ≤ v24 ∧ v24 ≤ (2147483647 : Int) := by
              rw [ev24]
              exact hH.rA (k := 102) (n := 6) (p := ((-2147483648), 2147483647)) (nlt rfl) rfl (by decide +kernel) (by omega)
            refine x_callSN (As := [.int (iI (v24))]) C (by exact (xf_bit (f := v24))) cnX3_28 rfl rfl (nle rfl) (by exact ⟨nle rfl, nle rfl⟩) dX3_lay_78 ?_
            rintro _ Xl25 ⟨hxl25, rfl⟩
            rw [hxl25]
            refine Wx_st (st' := [.long ((1 : Int64) <<< ((iI (v24)).toInt64 &&& 63)), .long (o)]) rfl ?_
            refine x_genL (fun l25 el25 => ?_)
            refine Wx_st (st' := [.long (l25), .long (o)]) rfl ?_
            refine x_ldc2 C dX3_lay_81 cnX3_36 ?_
            refine x_lxor C dX3_lay_84 ?_
            refine x_genL (fun l26 el26 => ?_)
            refine x_land C dX3_lay_85 ?_
            refine x_genL (fun l27 el27 => ?_)
            refine x_lstore (lv' := [(7, .long (l27)), (9, .int (iI (i))), (0, .ref 56), (1, .ref 10), (2, .ref 102), (3, .int (iI (sd))), (4, .int (iI (mn))), (5, .long (all))]) C dX3_lay_86 (nlt rfl) rfl ?_
            refine x_goto (tgt := 107) C dX3_lay_88 (by decide) ?_
            refine x_iinc (lv' := [(9, .int (iI (i + 1))), (7, .long (l27)), (0, .ref 56), (1, .ref 10), (2, .ref 102), (3, .int (iI (sd))), (4, .int (iI (mn))), (5, .long (all))]) C dX3_lay_107 rfl (nlt rfl) rfl ?_
            refine x_goto (tgt := 37) C dX3_lay_110 (by decide) ?_
            refine Wx_pick [9, 7, 0, 1, 2, 3, 4, 5] ?_
            refine Wx_lv (lv' := [(9, .int (iI (i + 1))), (7, .long (l27)), (0, .ref 56), (1, .ref 10), (2, .ref 102), (3, .int (iI (sd))), (4, .int (iI (mn))), (5, .long (all))]) rfl ?_
            exact ih _ _ _ (by omega) (by omega) (by omega) (by rw [el27]; exact m36_and om) hH hF
set_option maxHeartbeats 4000000 in
set_option maxRecDepth 100000 in
theorem xf_lay56_10_102 {D : va_G} {ad : Nat → Nat} {cA : Nat → ClassId} {X0 : XT} {sd mn : Int} (ss : inR sd) (mm : inR mn) (hH : HG vX X0) (hF : FR (cMd k_X_308) X0 X0) : MetX (wX D ad cA) yX3_lay cX3_lay 10 none 2 49 [.ref 56, .ref 10, .ref 102, .int (iI (sd)), .int (iI (mn))] X0 (fun r X1 => r = none ∧ HG vX X1 ∧ FR (cMd k_X_308) X0 X1 ∧ GOKP 57 58 X1) := by
  have ss' := ss
  have mm' := mm
  unfold inR at ss' mm'
  refine MetX.mk (own := RX3) (by decide +kernel) rfl (nle rfl) (fun E C hQ => ?_)
  refine Wx_lv (lv' := [(0, .ref 56), (1, .ref 10), (2, .ref 102), (3, .int (iI (sd))), (4, .int (iI (mn)))]) rfl ?_
  refine x_aload_n (i := 1) C dX3_lay_0 rfl rfl ?_
  refine x_getI C fkX_X3_19 (nlt rfl) rfl dX3_lay_1 ?_
  refine x_gen (fun v1 ev1 => ?_)
  have qv1 : (0 : Int) ≤ v1 ∧ v1 ≤ (6 : Int) := by
    rw [ev1]
    exact hH.rF (k := 10) (i := 0) rfl rfl
  refine x_aload_n (i := 1) C dX3_lay_4 rfl rfl ?_
  refine x_getI C fkX_X3_25 (nlt rfl) rfl dX3_lay_5 ?_
  refine x_gen (fun v2 ev2 => ?_)
  have qv2 : (0 : Int) ≤ v2 ∧ v2 ≤ (6 : Int) := by
    rw [ev2]
    exact hH.rF (k := 10) (i := 1) rfl rfl
  refine x_imul C dX3_lay_8 ?_
  refine x_callSN (As := [.int (iI (v1 * v2))]) C (by exact (xf_bit (f := v1 * v2))) cnX3_28 rfl rfl (nle rfl) (by exact ⟨nle rfl, nle rfl⟩) dX3_lay_9 ?_
  rintro _ Xl3 ⟨hxl3, rfl⟩
  rw [hxl3]
  refine Wx_st (st' := [.long ((1 : Int64) <<< ((iI (v1 * v2)).toInt64 &&& 63))]) rfl ?_
  refine x_genL (fun l3 el3 => ?_)
  refine Wx_st (st' := [.long (l3)]) rfl ?_
  refine x_lconst C dX3_lay_12 ?_
  refine x_eqL (b := 1) rfl ?_
  refine x_lsub C dX3_lay_13 ?_
  refine x_genL (fun l4 el4 => ?_)
  refine x_lstore (lv' := [(5, .long (l4)), (0, .ref 56), (1, .ref 10), (2, .ref 102), (3, .int (iI (sd))), (4, .int (iI (mn)))]) C dX3_lay_14 (nlt rfl) rfl ?_
  refine x_lload C dX3_lay_16 rfl ?_
  refine x_aload_n (i := 1) C dX3_lay_18 rfl rfl ?_
  refine x_getL C fkX_X3_32 (nlt rfl) rfl dX3_lay_19 ?_
  refine x_genL (fun l5 el5 => ?_)
  refine x_ldc2 C dX3_lay_22 cnX3_36 ?_
  refine x_lxor C dX3_lay_25 ?_
  refine x_genL (fun l6 el6 => ?_)
  refine x_land C dX3_lay_26 ?_
  refine x_genL (fun l7 el7 => ?_)
  refine x_lstore (lv' := [(7, .long (l7)), (5, .long (l4)), (0, .ref 56), (1, .ref 10), (2, .ref 102), (3, .int (iI (sd))), (4, .int (iI (mn)))]) C dX3_lay_27 (nlt rfl) rfl ?_
  refine x_aload_n (i := 0) C dX3_lay_29 rfl rfl ?_
  refine x_lconst C dX3_lay_30 ?_
  refine x_eqL (b := 0) rfl ?_
  refine x_putL C pkX_X3_38 (nlt rfl) rfl dX3_lay_31 ?_
  refine x_gX (fun Yy8 eYy8 => ?_)
  have hHy8 : HG vX Yy8 := by
    rw [eYy8]
    exact hg_wLF hH (p := ((-9223372036854775808), 9223372036854775807)) rfl (l64 _)
  have hFy8 : FR (cMd k_X_308) X0 Yy8 := by
    rw [eYy8]
    exact FR.upL hF (rfl)
  replace eYy8 : Yy8 = upL X0 56 2 (0) := eYy8
  refine x_iconst C dX3_lay_34 ?_
  refine x_istore (lv' := [(9, .int (iI (0))), (7, .long (l7)), (5, .long (l4)), (0, .ref 56), (1, .ref 10), (2, .ref 102), (3, .int (iI (sd))), (4, .int (iI (mn)))]) C dX3_lay_35 (nlt rfl) rfl ?_
  refine Wx_pick [9, 7, 0, 1, 2, 3, 4, 5] ?_
  refine Wx_lv (lv' := [(9, .int (iI (0))), (7, .long (l7)), (0, .ref 56), (1, .ref 10), (2, .ref 102), (3, .int (iI (sd))), (4, .int (iI (mn))), (5, .long (l4))]) rfl ?_
  exact xl_lay56_10_102 ss mm C hQ 7 0 _ _ (by omega) (by omega) (by omega) (by rw [el7]; exact m36_and (by rw [el4, el3]; exact m36_all (wh_36 (by omega) (by omega) (by omega) (by omega)))) hHy8 hFy8
set_option maxRecDepth 10000 in
theorem t_X_308 {D : va_G} {ad : Nat → Nat} {cA : Nat → ClassId} : CTR mtX vX gX (wX D ad cA) k_X_308 := by
  intro g X hpre
  obtain ⟨h00, hei, hel, hdl, hH, hE⟩ := hpre
  have h0 : (0 : Int) ≤ g.1 0 ∧ g.1 0 ≤ (0 : Int) := hei 0 _ rfl
  have h1 : ((-2147483648) : Int) ≤ g.1 1 ∧ g.1 1 ≤ (2147483647 : Int) := hei 1 _ rfl
  have h2 : ((-2147483648) : Int) ≤ g.1 2 ∧ g.1 2 ≤ (2147483647 : Int) := hei 2 _ rfl
  refine MetX.imp (fun r X1 hp => ?_) (xf_lay56_10_102 (X0 := X) (sd := g.1 1 + 0) (mn := g.1 2 + 0) ⟨by omega, by omega⟩ ⟨by omega, by omega⟩ hH FR.rf)
  obtain ⟨rfl, hH1, hF1, hG1⟩ := hp
  have e1 := gokX_1 hG1
  exact (altM_mk 0 [1] rfl (ei_cons ⟨by show (0 : Int) ≤ g.1 0; omega, by show g.1 0 ≤ (0 : Int); omega⟩ (ei_cons ⟨by show ((-2147483648) : Int) ≤ g.1 1; omega, by show g.1 1 ≤ (2147483647 : Int); omega⟩ (ei_cons ⟨by show ((-2147483648) : Int) ≤ g.1 2; omega, by show g.1 2 ≤ (2147483647 : Int); omega⟩ (ei_cons ⟨by show (1 : Int) ≤ 1; omega, by show 1 ≤ (1 : Int); omega⟩ ei_nil)))) el_nil (by rfl) (dl_cons (gh_mk rfl (by show gokX 57 58 X1 = (1 : Int) + 0; omega)) dl_nil) gd_nil hH1 (wdX.2.1 X X1 (fun k i hp => hF1 k i (nprX (md := cMd k_X_308) (by decide +kernel) hp)) hE) hF1)
set_option maxHeartbeats 4000000 in
set_option maxRecDepth 100000 in
theorem xl_lay56_10_99 {D : va_G} {ad : Nat → Nat} {cA : Nat → ClassId} {X0 : XT} {all : Int64} {sd mn : Int} (ss : inR sd) (mm : inR mn) {E : ET} (C : CX E (wX D ad cA) cX3_lay 10 RX3 none { frames := 2, cells := 0, slots := 0, locals := 49 }) (hQ : EQ E (wX D ad cA) (fun r X1 => r = none ∧ HG vX X1 ∧ FR (cMd k_X_323) X0 X1 ∧ GOKP 57 58 X1)) : ∀ (n : Nat) (i : Int) (o : Int64) (X : XT), 6 - i < n → 0 ≤ i → i ≤ 6 → m36 o → HG vX X → FR (cMd k_X_323) X0 X → Wx E (wX D ad cA) 10 (PX (wX D ad cA) X) 37 [(9, .int (iI (i))), (7, .long (o)), (0, .ref 56), (1, .ref 10), (2, .ref 99), (3, .int (iI (sd))), (4, .int (iI (mn))), (5, .long (all))] [] := by
  intro n
  induction n with
  | zero => intro i o X hn i0 i1 om hH hF; exfalso; omega
  | succ n ih =>
    intro i o X hn i0 i1 om hH hF
    unfold inR at ss mm
    refine x_iload C dX3_lay_37 rfl ?_
    refine x_aload_n (i := 1) C dX3_lay_39 rfl rfl ?_
    refine x_getI C fkX_X3_41 (nlt rfl) rfl dX3_lay_40 ?_
    refine x_gen (fun v1 ev1 => ?_)
    have qv1 : (0 : Int) ≤ v1 ∧ v1 ≤ (6 : Int) := by
      rw [ev1]
      exact hH.rF (k := 10) (i := 4) rfl rfl
    refine x_icmp_ge (tgt := 113) C dX3_lay_43 (by decide) ⟨by omega, by omega⟩ ⟨by omega, by omega⟩ (fun h2 => ?_) (fun h2 => ?_)
    · refine x_aload_n (i := 0) C dX3_lay_113 rfl rfl ?_
      refine x_aload_n (i := 0) C dX3_lay_114 rfl rfl ?_
      refine x_getL C fkX_X3_38 (nlt rfl) rfl dX3_lay_115 ?_
      refine x_genL (fun l3 el3 => ?_)
      refine x_aload_n (i := 1) C dX3_lay_118 rfl rfl ?_
      refine x_getL C fkX_X3_47 (nlt rfl) rfl dX3_lay_119 ?_
      refine x_genL (fun l4 el4 => ?_)
      refine x_lor C dX3_lay_122 ?_
      refine x_genL (fun l5 el5 => ?_)
      refine x_putL C pkX_X3_50 (nlt rfl) rfl dX3_lay_123 ?_
      refine x_gX (fun Yy6 eYy6 => ?_)
      have hHy6 : HG vX Yy6 := by
        rw [eYy6]
        exact hg_wLF hH (p := ((-9223372036854775808), 9223372036854775807)) rfl (l64 _)
      have hFy6 : FR (cMd k_X_323) X0 Yy6 := by
        rw [eYy6]
        exact FR.upL hF (rfl)
      replace eYy6 : Yy6 = upL X 56 4 (l5) := eYy6
      refine x_aload_n (i := 0) C dX3_lay_126 rfl rfl ?_
      refine x_getRs (r := 58) C fkX_X3_15 (nlt rfl) rfl (HG.rR hHy6 (k := 56) (i := 1) rfl rfl) dX3_lay_127 ?_
      refine x_iconst C dX3_lay_130 ?_
      refine x_aload_n (i := 1) C dX3_lay_131 rfl rfl ?_
      refine x_getI C fkX_X3_19 (nlt rfl) rfl dX3_lay_132 ?_
      refine x_gen (fun v7 ev7 => ?_)
      have qv7 : (0 : Int) ≤ v7 ∧ v7 ≤ (6 : Int) := by
        rw [ev7]
        exact hHy6.rF (k := 10) (i := 0) rfl rfl
      have wv7 : v7 = X0.1 10 0 := by rw [ev7, (hFy6 10 0 rfl).1]
      refine x_ineg C dX3_lay_135 ?_
      refine x_iast C (nlt rfl) rfl rfl (nle rfl) (by omega) (by omega) dX3_lay_136 ?_
      refine x_gX (fun Yy8 eYy8 => ?_)
      have hHy8 : HG vX Yy8 := by
        rw [eYy8]
        exact hg_wA hHy6 (n := 4) (p := ((-6), 6)) (by decide +kernel) (by omega) ⟨by omega, by omega⟩
      have hFy8 : FR (cMd k_X_323) X0 Yy8 := by
        rw [eYy8]
        exact FR.upI hFy6 (rfl)
      replace eYy8 : Yy8 = upI Yy6 58 0 (-v7) := eYy8
      refine x_aload_n (i := 0) C dX3_lay_137 rfl rfl ?_
      refine x_getRs (r := 58) C fkX_X3_15 (nlt rfl) rfl (HG.rR hHy8 (k := 56) (i := 1) rfl rfl) dX3_lay_138 ?_
      refine x_iconst C dX3_lay_141 ?_
      refine x_iconst C dX3_lay_142 ?_
      refine x_iast C (nlt rfl) rfl rfl (nle rfl) (by omega) (by omega) dX3_lay_143 ?_
      refine x_gX (fun Yy9 eYy9 => ?_)
      have hHy9 : HG vX Yy9 := by
        rw [eYy9]
        exact hg_wA hHy8 (n := 4) (p := ((-6), 6)) (by decide +kernel) (by omega) ⟨by omega, by omega⟩
      have hFy9 : FR (cMd k_X_323) X0 Yy9 := by
        rw [eYy9]
        exact FR.upI hFy8 (rfl)
      replace eYy9 : Yy9 = upI Yy8 58 1 (1) := eYy9
      refine x_aload_n (i := 0) C dX3_lay_144 rfl rfl ?_
      refine x_getRs (r := 58) C fkX_X3_15 (nlt rfl) rfl (HG.rR hHy9 (k := 56) (i := 1) rfl rfl) dX3_lay_145 ?_
      refine x_iconst C dX3_lay_148 ?_
      refine x_aload_n (i := 1) C dX3_lay_149 rfl rfl ?_
      refine x_getI C fkX_X3_19 (nlt rfl) rfl dX3_lay_150 ?_
      refine x_gen (fun v10 ev10 => ?_)
      have qv10 : (0 : Int) ≤ v10 ∧ v10 ≤ (6 : Int) := by
        rw [ev10]
        exact hHy9.rF (k := 10) (i := 0) rfl rfl
      have wv10 : v10 = X0.1 10 0 := by rw [ev10, (hFy9 10 0 rfl).1]
      refine x_iast C (nlt rfl) rfl rfl (nle rfl) (by omega) (by omega) dX3_lay_153 ?_
      refine x_gX (fun Yy11 eYy11 => ?_)
      have hHy11 : HG vX Yy11 := by
        rw [eYy11]
        exact hg_wA hHy9 (n := 4) (p := ((-6), 6)) (by decide +kernel) (by omega) ⟨by omega, by omega⟩
      have hFy11 : FR (cMd k_X_323) X0 Yy11 := by
        rw [eYy11]
        exact FR.upI hFy9 (rfl)
      replace eYy11 : Yy11 = upI Yy9 58 2 (v10) := eYy11
      refine x_aload_n (i := 0) C dX3_lay_154 rfl rfl ?_
      refine x_getRs (r := 58) C fkX_X3_15 (nlt rfl) rfl (HG.rR hHy11 (k := 56) (i := 1) rfl rfl) dX3_lay_155 ?_
      refine x_iconst C dX3_lay_158 ?_
      refine x_iconst C dX3_lay_159 ?_
      refine x_iast C (nlt rfl) rfl rfl (nle rfl) (by omega) (by omega) dX3_lay_160 ?_
      refine x_gX (fun Yy12 eYy12 => ?_)
      have hHy12 : HG vX Yy12 := by
        rw [eYy12]
        exact hg_wA hHy11 (n := 4) (p := ((-6), 6)) (by decide +kernel) (by omega) ⟨by omega, by omega⟩
      have hFy12 : FR (cMd k_X_323) X0 Yy12 := by
        rw [eYy12]
        exact FR.upI hFy11 (rfl)
      replace eYy12 : Yy12 = upI Yy11 58 3 ((-1)) := eYy12
      refine x_aload_n (i := 0) C dX3_lay_161 rfl rfl ?_
      refine x_aload_n (i := 1) C dX3_lay_162 rfl rfl ?_
      refine x_lload C dX3_lay_163 rfl ?_
      refine x_lload C dX3_lay_165 rfl ?_
      refine x_callV (As := [.ref 10, .long (all), .long (o)]) C (by exact (xf_layN56_10 (all := all) (op := o) hHy12 FR.rf)) ckX3_53 im_X3_layNeighbours se_X3_layNeighbours (nlt rfl) rfl rfl rfl rfl (nle rfl) (by exact ⟨nle rfl, nle rfl⟩) dX3_lay_167 ?_
      rintro _ Yy13 ⟨rfl, hHy13, hGy13, P0y13, P1y13, P2y13, P3y13⟩
      have hFy13 : FR (cMd k_X_323) X0 Yy13 := FR.tr hFy12 hGy13 (by decide)
      refine Wx_st (st' := []) rfl ?_
      exact x_vret C hQ dX3_lay_170 (⟨rfl, hHy13, hFy13, by (intro s hs j hj ht); (have lt : ∀ i, tb o i = true → i < 36 := fun i hi => by (by_cases q : i < 36); (exact q); (rw [m36_iff.mp om i (by omega)] at hi; cases hi)); (rcases (show s = 0 ∨ s = 1 ∨ s = 2 ∨ s = 3 by omega) with rfl | rfl | rfl | rfl); ((have p := P0y13 j hj ht); (have := lt _ p.2); (rw [(hGy13 58 0 rfl).1, eYy12, upI_ne (by decide), eYy11, upI_ne (by decide), eYy9, upI_ne (by decide), eYy8, upI_at]); (have p1 := p.1); (have wq := (show Yy12.1 10 0 = v10 by rw [(hFy12 10 0 rfl).1, wv10])); (rw [wq] at this p1); (omega)); ((have := lt _ (P1y13 j hj ht)); (rw [(hGy13 58 1 rfl).1, eYy12, upI_ne (by decide), eYy11, upI_ne (by decide), eYy9, upI_at]); (omega)); ((have := lt _ (P2y13 j hj ht)); (rw [(hGy13 58 2 rfl).1, eYy12, upI_ne (by decide), eYy11, upI_at]); (have wq := (show Yy12.1 10 0 = v10 by rw [(hFy12 10 0 rfl).1, wv10])); (rw [wq] at this); (omega)); ((have p := P3y13 j hj ht); (have := lt _ p.2); (rw [(hGy13 58 3 rfl).1, eYy12, upI_at]); (have p1 := p.1); (omega))⟩)
    · refine x_iload C dX3_lay_46 rfl ?_
      refine x_iload C dX3_lay_48 rfl ?_
      refine x_icmp_eq (tgt := 107) C dX3_lay_50 (by decide) ⟨by omega, by omega⟩ ⟨by omega, by omega⟩ (fun h14 => ?_) (fun h14 => ?_)
      · refine x_iinc (lv' := [(9, .int (iI (i + 1))), (7, .long (o)), (0, .ref 56), (1, .ref 10), (2, .ref 99), (3, .int (iI (sd))), (4, .int (iI (mn))), (5, .long (all))]) C dX3_lay_107 rfl (nlt rfl) rfl ?_
        refine x_goto (tgt := 37) C dX3_lay_110 (by decide) ?_
        refine Wx_pick [9, 7, 0, 1, 2, 3, 4, 5] ?_
        refine Wx_lv (lv' := [(9, .int (iI (i + 1))), (7, .long (o)), (0, .ref 56), (1, .ref 10), (2, .ref 99), (3, .int (iI (sd))), (4, .int (iI (mn))), (5, .long (all))]) rfl ?_
        exact ih _ _ _ (by omega) (by omega) (by omega) om hH hF
      · refine x_aload_n (i := 2) C dX3_lay_53 rfl rfl ?_
        refine x_iload C dX3_lay_54 rfl ?_
        refine x_iald C (nlt rfl) rfl rfl (nle rfl) (by omega) (by omega) dX3_lay_56 ?_
        refine x_gen (fun v15 ev15 => ?_)
        have qv15 : ((-2147483648) : Int) ≤ v15 ∧ v15 ≤ (2147483647 : Int) := by
          rw [ev15]
          exact hH.rA (k := 99) (n := 6) (p := ((-2147483648), 2147483647)) (nlt rfl) rfl (by decide +kernel) (by omega)
        refine x_iconst C dX3_lay_57 ?_
        refine x_icmp_eq (tgt := 107) C dX3_lay_58 (by decide) ⟨by omega, by omega⟩ ⟨by omega, by omega⟩ (fun h16 => ?_) (fun h16 => ?_)
        · refine x_iinc (lv' := [(9, .int (iI (i + 1))), (7, .long (o)), (0, .ref 56), (1, .ref 10), (2, .ref 99), (3, .int (iI (sd))), (4, .int (iI (mn))), (5, .long (all))]) C dX3_lay_107 rfl (nlt rfl) rfl ?_
          refine x_goto (tgt := 37) C dX3_lay_110 (by decide) ?_
          refine Wx_pick [9, 7, 0, 1, 2, 3, 4, 5] ?_
          refine Wx_lv (lv' := [(9, .int (iI (i + 1))), (7, .long (o)), (0, .ref 56), (1, .ref 10), (2, .ref 99), (3, .int (iI (sd))), (4, .int (iI (mn))), (5, .long (all))]) rfl ?_
          exact ih _ _ _ (by omega) (by omega) (by omega) om hH hF
        · refine x_aload_n (i := 1) C dX3_lay_61 rfl rfl ?_
          refine x_getRs (r := 11) C fkX_X3_44 (nlt rfl) rfl (HG.rR hH (k := 10) (i := 5) rfl rfl) dX3_lay_62 ?_
          refine x_iload C dX3_lay_65 rfl ?_
          refine x_iald C (nlt rfl) rfl rfl (nle rfl) (by omega) (by omega) dX3_lay_67 ?_
          refine x_gen (fun v17 ev17 => ?_)
          have qv17 : ((-2147483648) : Int) ≤ v17 ∧ v17 ≤ (2147483647 : Int) := by
            rw [ev17]
            exact hH.rA (k := 11) (n := 6) (p := ((-2147483648), 2147483647)) (nlt rfl) rfl (by decide +kernel) (by omega)
          refine x_iload_n (i := 3) C dX3_lay_68 rfl rfl ?_
          refine x_icmp_ne (tgt := 91) C dX3_lay_69 (by decide) ⟨by omega, by omega⟩ ⟨by omega, by omega⟩ (fun h18 => ?_) (fun h18 => ?_)
          · refine x_aload_n (i := 0) C dX3_lay_91 rfl rfl ?_
            refine x_dup C dX3_lay_92 rfl ?_
            refine x_getL C fkX_X3_38 (nlt rfl) rfl dX3_lay_93 ?_
            refine x_genL (fun l19 el19 => ?_)
            refine x_aload_n (i := 2) C dX3_lay_96 rfl rfl ?_
            refine x_iload C dX3_lay_97 rfl ?_
            refine x_iald C (nlt rfl) rfl rfl (nle rfl) (by omega) (by omega) dX3_lay_99 ?_
            refine x_gen (fun v20 ev20 => ?_)
            have qv20 : ((-2147483648) : Int) ≤ v20 ∧ v20 ≤ (2147483647 : Int) := by
              rw [ev20]
              exact hH.rA (k := 99) (n := 6) (p := ((-2147483648), 2147483647)) (nlt rfl) rfl (by decide +kernel) (by omega)
            refine x_callSN (As := [.int (iI (v20))]) C (by exact (xf_bit (f := v20))) cnX3_28 rfl rfl (nle rfl) (by exact ⟨nle rfl, nle rfl⟩) dX3_lay_100 ?_
            rintro _ Xl21 ⟨hxl21, rfl⟩
            rw [hxl21]
            refine Wx_st (st' := [.long ((1 : Int64) <<< ((iI (v20)).toInt64 &&& 63)), .long (l19), .ref 56]) rfl ?_
            refine x_genL (fun l21 el21 => ?_)
            refine Wx_st (st' := [.long (l21), .long (l19), .ref 56]) rfl ?_
            refine x_lor C dX3_lay_103 ?_
            refine x_genL (fun l22 el22 => ?_)
            refine x_putL C pkX_X3_38 (nlt rfl) rfl dX3_lay_104 ?_
            refine x_gX (fun Yy23 eYy23 => ?_)
            have hHy23 : HG vX Yy23 := by
              rw [eYy23]
              exact hg_wLF hH (p := ((-9223372036854775808), 9223372036854775807)) rfl (l64 _)
            have hFy23 : FR (cMd k_X_323) X0 Yy23 := by
              rw [eYy23]
              exact FR.upL hF (rfl)
            replace eYy23 : Yy23 = upL X 56 2 (l22) := eYy23
            refine x_iinc (lv' := [(9, .int (iI (i + 1))), (7, .long (o)), (0, .ref 56), (1, .ref 10), (2, .ref 99), (3, .int (iI (sd))), (4, .int (iI (mn))), (5, .long (all))]) C dX3_lay_107 rfl (nlt rfl) rfl ?_
            refine x_goto (tgt := 37) C dX3_lay_110 (by decide) ?_
            refine Wx_pick [9, 7, 0, 1, 2, 3, 4, 5] ?_
            refine Wx_lv (lv' := [(9, .int (iI (i + 1))), (7, .long (o)), (0, .ref 56), (1, .ref 10), (2, .ref 99), (3, .int (iI (sd))), (4, .int (iI (mn))), (5, .long (all))]) rfl ?_
            exact ih _ _ _ (by omega) (by omega) (by omega) om hHy23 hFy23
          · refine x_lload C dX3_lay_72 rfl ?_
            refine x_aload_n (i := 2) C dX3_lay_74 rfl rfl ?_
            refine x_iload C dX3_lay_75 rfl ?_
            refine x_iald C (nlt rfl) rfl rfl (nle rfl) (by omega) (by omega) dX3_lay_77 ?_
            refine x_gen (fun v24 ev24 => ?_)
            have qv24 : ((-2147483648) : Int) ≤ v24 ∧ v24 ≤ (2147483647 : Int) := by
              rw [ev24]
              exact hH.rA (k := 99) (n := 6) (p := ((-2147483648), 2147483647)) (nlt rfl) rfl (by decide +kernel) (by omega)
            refine x_callSN (As := [.int (iI (v24))]) C (by exact (xf_bit (f := v24))) cnX3_28 rfl rfl (nle rfl) (by exact ⟨nle rfl, nle rfl⟩) dX3_lay_78 ?_
            rintro _ Xl25 ⟨hxl25, rfl⟩
            rw [hxl25]
            refine Wx_st (st' := [.long ((1 : Int64) <<< ((iI (v24)).toInt64 &&& 63)), .long (o)]) rfl ?_
            refine x_genL (fun l25 el25 => ?_)
            refine Wx_st (st' := [.long (l25), .long (o)]) rfl ?_
            refine x_ldc2 C dX3_lay_81 cnX3_36 ?_
            refine x_lxor C dX3_lay_84 ?_
            refine x_genL (fun l26 el26 => ?_)
            refine x_land C dX3_lay_85 ?_
            refine x_genL (fun l27 el27 => ?_)
            refine x_lstore (lv' := [(7, .long (l27)), (9, .int (iI (i))), (0, .ref 56), (1, .ref 10), (2, .ref 99), (3, .int (iI (sd))), (4, .int (iI (mn))), (5, .long (all))]) C dX3_lay_86 (nlt rfl) rfl ?_
            refine x_goto (tgt := 107) C dX3_lay_88 (by decide) ?_
            refine x_iinc (lv' := [(9, .int (iI (i + 1))), (7, .long (l27)), (0, .ref 56), (1, .ref 10), (2, .ref 99), (3, .int (iI (sd))), (4, .int (iI (mn))), (5, .long (all))]) C dX3_lay_107 rfl (nlt rfl) rfl ?_
            refine x_goto (tgt := 37) C dX3_lay_110 (by decide) ?_
            refine Wx_pick [9, 7, 0, 1, 2, 3, 4, 5] ?_
            refine Wx_lv (lv' := [(9, .int (iI (i + 1))), (7, .long (l27)), (0, .ref 56), (1, .ref 10), (2, .ref 99), (3, .int (iI (sd))), (4, .int (iI (mn))), (5, .long (all))]) rfl ?_
            exact ih _ _ _ (by omega) (by omega) (by omega) (by rw [el27]; exact m36_and om) hH hF
set_option maxHeartbeats 4000000 in
set_option maxRecDepth 100000 in
theorem xf_lay56_10_99 {D : va_G} {ad : Nat → Nat} {cA : Nat → ClassId} {X0 : XT} {sd mn : Int} (ss : inR sd) (mm : inR mn) (hH : HG vX X0) (hF : FR (cMd k_X_323) X0 X0) : MetX (wX D ad cA) yX3_lay cX3_lay 10 none 2 49 [.ref 56, .ref 10, .ref 99, .int (iI (sd)), .int (iI (mn))] X0 (fun r X1 => r = none ∧ HG vX X1 ∧ FR (cMd k_X_323) X0 X1 ∧ GOKP 57 58 X1) := by
  have ss' := ss
  have mm' := mm
  unfold inR at ss' mm'
  refine MetX.mk (own := RX3) (by decide +kernel) rfl (nle rfl) (fun E C hQ => ?_)
  refine Wx_lv (lv' := [(0, .ref 56), (1, .ref 10), (2, .ref 99), (3, .int (iI (sd))), (4, .int (iI (mn)))]) rfl ?_
  refine x_aload_n (i := 1) C dX3_lay_0 rfl rfl ?_
  refine x_getI C fkX_X3_19 (nlt rfl) rfl dX3_lay_1 ?_
  refine x_gen (fun v1 ev1 => ?_)
  have qv1 : (0 : Int) ≤ v1 ∧ v1 ≤ (6 : Int) := by
    rw [ev1]
    exact hH.rF (k := 10) (i := 0) rfl rfl
  refine x_aload_n (i := 1) C dX3_lay_4 rfl rfl ?_
  refine x_getI C fkX_X3_25 (nlt rfl) rfl dX3_lay_5 ?_
  refine x_gen (fun v2 ev2 => ?_)
  have qv2 : (0 : Int) ≤ v2 ∧ v2 ≤ (6 : Int) := by
    rw [ev2]
    exact hH.rF (k := 10) (i := 1) rfl rfl
  refine x_imul C dX3_lay_8 ?_
  refine x_callSN (As := [.int (iI (v1 * v2))]) C (by exact (xf_bit (f := v1 * v2))) cnX3_28 rfl rfl (nle rfl) (by exact ⟨nle rfl, nle rfl⟩) dX3_lay_9 ?_
  rintro _ Xl3 ⟨hxl3, rfl⟩
  rw [hxl3]
  refine Wx_st (st' := [.long ((1 : Int64) <<< ((iI (v1 * v2)).toInt64 &&& 63))]) rfl ?_
  refine x_genL (fun l3 el3 => ?_)
  refine Wx_st (st' := [.long (l3)]) rfl ?_
  refine x_lconst C dX3_lay_12 ?_
  refine x_eqL (b := 1) rfl ?_
  refine x_lsub C dX3_lay_13 ?_
  refine x_genL (fun l4 el4 => ?_)
  refine x_lstore (lv' := [(5, .long (l4)), (0, .ref 56), (1, .ref 10), (2, .ref 99), (3, .int (iI (sd))), (4, .int (iI (mn)))]) C dX3_lay_14 (nlt rfl) rfl ?_
  refine x_lload C dX3_lay_16 rfl ?_
  refine x_aload_n (i := 1) C dX3_lay_18 rfl rfl ?_
  refine x_getL C fkX_X3_32 (nlt rfl) rfl dX3_lay_19 ?_
  refine x_genL (fun l5 el5 => ?_)
  refine x_ldc2 C dX3_lay_22 cnX3_36 ?_
  refine x_lxor C dX3_lay_25 ?_
  refine x_genL (fun l6 el6 => ?_)
  refine x_land C dX3_lay_26 ?_
  refine x_genL (fun l7 el7 => ?_)
  refine x_lstore (lv' := [(7, .long (l7)), (5, .long (l4)), (0, .ref 56), (1, .ref 10), (2, .ref 99), (3, .int (iI (sd))), (4, .int (iI (mn)))]) C dX3_lay_27 (nlt rfl) rfl ?_
  refine x_aload_n (i := 0) C dX3_lay_29 rfl rfl ?_
  refine x_lconst C dX3_lay_30 ?_
  refine x_eqL (b := 0) rfl ?_
  refine x_putL C pkX_X3_38 (nlt rfl) rfl dX3_lay_31 ?_
  refine x_gX (fun Yy8 eYy8 => ?_)
  have hHy8 : HG vX Yy8 := by
    rw [eYy8]
    exact hg_wLF hH (p := ((-9223372036854775808), 9223372036854775807)) rfl (l64 _)
  have hFy8 : FR (cMd k_X_323) X0 Yy8 := by
    rw [eYy8]
    exact FR.upL hF (rfl)
  replace eYy8 : Yy8 = upL X0 56 2 (0) := eYy8
  refine x_iconst C dX3_lay_34 ?_
  refine x_istore (lv' := [(9, .int (iI (0))), (7, .long (l7)), (5, .long (l4)), (0, .ref 56), (1, .ref 10), (2, .ref 99), (3, .int (iI (sd))), (4, .int (iI (mn)))]) C dX3_lay_35 (nlt rfl) rfl ?_
  refine Wx_pick [9, 7, 0, 1, 2, 3, 4, 5] ?_
  refine Wx_lv (lv' := [(9, .int (iI (0))), (7, .long (l7)), (0, .ref 56), (1, .ref 10), (2, .ref 99), (3, .int (iI (sd))), (4, .int (iI (mn))), (5, .long (l4))]) rfl ?_
  exact xl_lay56_10_99 ss mm C hQ 7 0 _ _ (by omega) (by omega) (by omega) (by rw [el7]; exact m36_and (by rw [el4, el3]; exact m36_all (wh_36 (by omega) (by omega) (by omega) (by omega)))) hHy8 hFy8
set_option maxRecDepth 10000 in
theorem t_X_323 {D : va_G} {ad : Nat → Nat} {cA : Nat → ClassId} : CTR mtX vX gX (wX D ad cA) k_X_323 := by
  intro g X hpre
  obtain ⟨h00, hei, hel, hdl, hH, hE⟩ := hpre
  have h0 : (0 : Int) ≤ g.1 0 ∧ g.1 0 ≤ (0 : Int) := hei 0 _ rfl
  have h1 : ((-2147483648) : Int) ≤ g.1 1 ∧ g.1 1 ≤ (2147483647 : Int) := hei 1 _ rfl
  have h2 : ((-2147483648) : Int) ≤ g.1 2 ∧ g.1 2 ≤ (2147483647 : Int) := hei 2 _ rfl
  refine MetX.imp (fun r X1 hp => ?_) (xf_lay56_10_99 (X0 := X) (sd := g.1 1 + 0) (mn := g.1 2 + 0) ⟨by omega, by omega⟩ ⟨by omega, by omega⟩ hH FR.rf)
  obtain ⟨rfl, hH1, hF1, hG1⟩ := hp
  have e1 := gokX_1 hG1
  exact (altM_mk 0 [1] rfl (ei_cons ⟨by show (0 : Int) ≤ g.1 0; omega, by show g.1 0 ≤ (0 : Int); omega⟩ (ei_cons ⟨by show ((-2147483648) : Int) ≤ g.1 1; omega, by show g.1 1 ≤ (2147483647 : Int); omega⟩ (ei_cons ⟨by show ((-2147483648) : Int) ≤ g.1 2; omega, by show g.1 2 ≤ (2147483647 : Int); omega⟩ (ei_cons ⟨by show (1 : Int) ≤ 1; omega, by show 1 ≤ (1 : Int); omega⟩ ei_nil)))) el_nil (by rfl) (dl_cons (gh_mk rfl (by show gokX 57 58 X1 = (1 : Int) + 0; omega)) dl_nil) gd_nil hH1 (wdX.2.1 X X1 (fun k i hp => hF1 k i (nprX (md := cMd k_X_323) (by decide +kernel) hp)) hE) hF1)
set_option maxHeartbeats 4000000 in
set_option maxRecDepth 100000 in
theorem xl_lay56_10_96 {D : va_G} {ad : Nat → Nat} {cA : Nat → ClassId} {X0 : XT} {all : Int64} {sd mn : Int} (ss : inR sd) (mm : inR mn) {E : ET} (C : CX E (wX D ad cA) cX3_lay 10 RX3 none { frames := 2, cells := 0, slots := 0, locals := 49 }) (hQ : EQ E (wX D ad cA) (fun r X1 => r = none ∧ HG vX X1 ∧ FR (cMd k_X_338) X0 X1 ∧ GOKP 57 58 X1)) : ∀ (n : Nat) (i : Int) (o : Int64) (X : XT), 6 - i < n → 0 ≤ i → i ≤ 6 → m36 o → HG vX X → FR (cMd k_X_338) X0 X → Wx E (wX D ad cA) 10 (PX (wX D ad cA) X) 37 [(9, .int (iI (i))), (7, .long (o)), (0, .ref 56), (1, .ref 10), (2, .ref 96), (3, .int (iI (sd))), (4, .int (iI (mn))), (5, .long (all))] [] := by
  intro n
  induction n with
  | zero => intro i o X hn i0 i1 om hH hF; exfalso; omega
  | succ n ih =>
    intro i o X hn i0 i1 om hH hF
    unfold inR at ss mm
    refine x_iload C dX3_lay_37 rfl ?_
    refine x_aload_n (i := 1) C dX3_lay_39 rfl rfl ?_
    refine x_getI C fkX_X3_41 (nlt rfl) rfl dX3_lay_40 ?_
    refine x_gen (fun v1 ev1 => ?_)
    have qv1 : (0 : Int) ≤ v1 ∧ v1 ≤ (6 : Int) := by
      rw [ev1]
      exact hH.rF (k := 10) (i := 4) rfl rfl
    refine x_icmp_ge (tgt := 113) C dX3_lay_43 (by decide) ⟨by omega, by omega⟩ ⟨by omega, by omega⟩ (fun h2 => ?_) (fun h2 => ?_)
    · refine x_aload_n (i := 0) C dX3_lay_113 rfl rfl ?_
      refine x_aload_n (i := 0) C dX3_lay_114 rfl rfl ?_
      refine x_getL C fkX_X3_38 (nlt rfl) rfl dX3_lay_115 ?_
      refine x_genL (fun l3 el3 => ?_)
      refine x_aload_n (i := 1) C dX3_lay_118 rfl rfl ?_
      refine x_getL C fkX_X3_47 (nlt rfl) rfl dX3_lay_119 ?_
      refine x_genL (fun l4 el4 => ?_)
      refine x_lor C dX3_lay_122 ?_
      refine x_genL (fun l5 el5 => ?_)
      refine x_putL C pkX_X3_50 (nlt rfl) rfl dX3_lay_123 ?_
      refine x_gX (fun Yy6 eYy6 => ?_)
      have hHy6 : HG vX Yy6 := by
        rw [eYy6]
        exact hg_wLF hH (p := ((-9223372036854775808), 9223372036854775807)) rfl (l64 _)
      have hFy6 : FR (cMd k_X_338) X0 Yy6 := by
        rw [eYy6]
        exact FR.upL hF (rfl)
      replace eYy6 : Yy6 = upL X 56 4 (l5) := eYy6
      refine x_aload_n (i := 0) C dX3_lay_126 rfl rfl ?_
      refine x_getRs (r := 58) C fkX_X3_15 (nlt rfl) rfl (HG.rR hHy6 (k := 56) (i := 1) rfl rfl) dX3_lay_127 ?_
      refine x_iconst C dX3_lay_130 ?_
      refine x_aload_n (i := 1) C dX3_lay_131 rfl rfl ?_
      refine x_getI C fkX_X3_19 (nlt rfl) rfl dX3_lay_132 ?_
      refine x_gen (fun v7 ev7 => ?_)
      have qv7 : (0 : Int) ≤ v7 ∧ v7 ≤ (6 : Int) := by
        rw [ev7]
        exact hHy6.rF (k := 10) (i := 0) rfl rfl
      have wv7 : v7 = X0.1 10 0 := by rw [ev7, (hFy6 10 0 rfl).1]
      refine x_ineg C dX3_lay_135 ?_
      refine x_iast C (nlt rfl) rfl rfl (nle rfl) (by omega) (by omega) dX3_lay_136 ?_
      refine x_gX (fun Yy8 eYy8 => ?_)
      have hHy8 : HG vX Yy8 := by
        rw [eYy8]
        exact hg_wA hHy6 (n := 4) (p := ((-6), 6)) (by decide +kernel) (by omega) ⟨by omega, by omega⟩
      have hFy8 : FR (cMd k_X_338) X0 Yy8 := by
        rw [eYy8]
        exact FR.upI hFy6 (rfl)
      replace eYy8 : Yy8 = upI Yy6 58 0 (-v7) := eYy8
      refine x_aload_n (i := 0) C dX3_lay_137 rfl rfl ?_
      refine x_getRs (r := 58) C fkX_X3_15 (nlt rfl) rfl (HG.rR hHy8 (k := 56) (i := 1) rfl rfl) dX3_lay_138 ?_
      refine x_iconst C dX3_lay_141 ?_
      refine x_iconst C dX3_lay_142 ?_
      refine x_iast C (nlt rfl) rfl rfl (nle rfl) (by omega) (by omega) dX3_lay_143 ?_
      refine x_gX (fun Yy9 eYy9 => ?_)
      have hHy9 : HG vX Yy9 := by
        rw [eYy9]
        exact hg_wA hHy8 (n := 4) (p := ((-6), 6)) (by decide +kernel) (by omega) ⟨by omega, by omega⟩
      have hFy9 : FR (cMd k_X_338) X0 Yy9 := by
        rw [eYy9]
        exact FR.upI hFy8 (rfl)
      replace eYy9 : Yy9 = upI Yy8 58 1 (1) := eYy9
      refine x_aload_n (i := 0) C dX3_lay_144 rfl rfl ?_
      refine x_getRs (r := 58) C fkX_X3_15 (nlt rfl) rfl (HG.rR hHy9 (k := 56) (i := 1) rfl rfl) dX3_lay_145 ?_
      refine x_iconst C dX3_lay_148 ?_
      refine x_aload_n (i := 1) C dX3_lay_149 rfl rfl ?_
      refine x_getI C fkX_X3_19 (nlt rfl) rfl dX3_lay_150 ?_
      refine x_gen (fun v10 ev10 => ?_)
      have qv10 : (0 : Int) ≤ v10 ∧ v10 ≤ (6 : Int) := by
        rw [ev10]
        exact hHy9.rF (k := 10) (i := 0) rfl rfl
      have wv10 : v10 = X0.1 10 0 := by rw [ev10, (hFy9 10 0 rfl).1]
      refine x_iast C (nlt rfl) rfl rfl (nle rfl) (by omega) (by omega) dX3_lay_153 ?_
      refine x_gX (fun Yy11 eYy11 => ?_)
      have hHy11 : HG vX Yy11 := by
        rw [eYy11]
        exact hg_wA hHy9 (n := 4) (p := ((-6), 6)) (by decide +kernel) (by omega) ⟨by omega, by omega⟩
      have hFy11 : FR (cMd k_X_338) X0 Yy11 := by
        rw [eYy11]
        exact FR.upI hFy9 (rfl)
      replace eYy11 : Yy11 = upI Yy9 58 2 (v10) := eYy11
      refine x_aload_n (i := 0) C dX3_lay_154 rfl rfl ?_
      refine x_getRs (r := 58) C fkX_X3_15 (nlt rfl) rfl (HG.rR hHy11 (k := 56) (i := 1) rfl rfl) dX3_lay_155 ?_
      refine x_iconst C dX3_lay_158 ?_
      refine x_iconst C dX3_lay_159 ?_
      refine x_iast C (nlt rfl) rfl rfl (nle rfl) (by omega) (by omega) dX3_lay_160 ?_
      refine x_gX (fun Yy12 eYy12 => ?_)
      have hHy12 : HG vX Yy12 := by
        rw [eYy12]
        exact hg_wA hHy11 (n := 4) (p := ((-6), 6)) (by decide +kernel) (by omega) ⟨by omega, by omega⟩
      have hFy12 : FR (cMd k_X_338) X0 Yy12 := by
        rw [eYy12]
        exact FR.upI hFy11 (rfl)
      replace eYy12 : Yy12 = upI Yy11 58 3 ((-1)) := eYy12
      refine x_aload_n (i := 0) C dX3_lay_161 rfl rfl ?_
      refine x_aload_n (i := 1) C dX3_lay_162 rfl rfl ?_
      refine x_lload C dX3_lay_163 rfl ?_
      refine x_lload C dX3_lay_165 rfl ?_
      refine x_callV (As := [.ref 10, .long (all), .long (o)]) C (by exact (xf_layN56_10 (all := all) (op := o) hHy12 FR.rf)) ckX3_53 im_X3_layNeighbours se_X3_layNeighbours (nlt rfl) rfl rfl rfl rfl (nle rfl) (by exact ⟨nle rfl, nle rfl⟩) dX3_lay_167 ?_
      rintro _ Yy13 ⟨rfl, hHy13, hGy13, P0y13, P1y13, P2y13, P3y13⟩
      have hFy13 : FR (cMd k_X_338) X0 Yy13 := FR.tr hFy12 hGy13 (by decide)
      refine Wx_st (st' := []) rfl ?_
      exact x_vret C hQ dX3_lay_170 (⟨rfl, hHy13, hFy13, by (intro s hs j hj ht); (have lt : ∀ i, tb o i = true → i < 36 := fun i hi => by (by_cases q : i < 36); (exact q); (rw [m36_iff.mp om i (by omega)] at hi; cases hi)); (rcases (show s = 0 ∨ s = 1 ∨ s = 2 ∨ s = 3 by omega) with rfl | rfl | rfl | rfl); ((have p := P0y13 j hj ht); (have := lt _ p.2); (rw [(hGy13 58 0 rfl).1, eYy12, upI_ne (by decide), eYy11, upI_ne (by decide), eYy9, upI_ne (by decide), eYy8, upI_at]); (have p1 := p.1); (have wq := (show Yy12.1 10 0 = v10 by rw [(hFy12 10 0 rfl).1, wv10])); (rw [wq] at this p1); (omega)); ((have := lt _ (P1y13 j hj ht)); (rw [(hGy13 58 1 rfl).1, eYy12, upI_ne (by decide), eYy11, upI_ne (by decide), eYy9, upI_at]); (omega)); ((have := lt _ (P2y13 j hj ht)); (rw [(hGy13 58 2 rfl).1, eYy12, upI_ne (by decide), eYy11, upI_at]); (have wq := (show Yy12.1 10 0 = v10 by rw [(hFy12 10 0 rfl).1, wv10])); (rw [wq] at this); (omega)); ((have p := P3y13 j hj ht); (have := lt _ p.2); (rw [(hGy13 58 3 rfl).1, eYy12, upI_at]); (have p1 := p.1); (omega))⟩)
    · refine x_iload C dX3_lay_46 rfl ?_
      refine x_iload C dX3_lay_48 rfl ?_
      refine x_icmp_eq (tgt := 107) C dX3_lay_50 (by decide) ⟨by omega, by omega⟩ ⟨by omega, by omega⟩ (fun h14 => ?_) (fun h14 => ?_)
      · refine x_iinc (lv' := [(9, .int (iI (i + 1))), (7, .long (o)), (0, .ref 56), (1, .ref 10), (2, .ref 96), (3, .int (iI (sd))), (4, .int (iI (mn))), (5, .long (all))]) C dX3_lay_107 rfl (nlt rfl) rfl ?_
        refine x_goto (tgt := 37) C dX3_lay_110 (by decide) ?_
        refine Wx_pick [9, 7, 0, 1, 2, 3, 4, 5] ?_
        refine Wx_lv (lv' := [(9, .int (iI (i + 1))), (7, .long (o)), (0, .ref 56), (1, .ref 10), (2, .ref 96), (3, .int (iI (sd))), (4, .int (iI (mn))), (5, .long (all))]) rfl ?_
        exact ih _ _ _ (by omega) (by omega) (by omega) om hH hF
      · refine x_aload_n (i := 2) C dX3_lay_53 rfl rfl ?_
        refine x_iload C dX3_lay_54 rfl ?_
        refine x_iald C (nlt rfl) rfl rfl (nle rfl) (by omega) (by omega) dX3_lay_56 ?_
        refine x_gen (fun v15 ev15 => ?_)
        have qv15 : ((-2147483648) : Int) ≤ v15 ∧ v15 ≤ (2147483647 : Int) := by
          rw [ev15]
          exact hH.rA (k := 96) (n := 6) (p := ((-2147483648), 2147483647)) (nlt rfl) rfl (by decide +kernel) (by omega)
        refine x_iconst C dX3_lay_57 ?_
        refine x_icmp_eq (tgt := 107) C dX3_lay_58 (by decide) ⟨by omega, by omega⟩ ⟨by omega, by omega⟩ (fun h16 => ?_) (fun h16 => ?_)
        · refine x_iinc (lv' := [(9, .int (iI (i + 1))), (7, .long (o)), (0, .ref 56), (1, .ref 10), (2, .ref 96), (3, .int (iI (sd))), (4, .int (iI (mn))), (5, .long (all))]) C dX3_lay_107 rfl (nlt rfl) rfl ?_
          refine x_goto (tgt := 37) C dX3_lay_110 (by decide) ?_
          refine Wx_pick [9, 7, 0, 1, 2, 3, 4, 5] ?_
          refine Wx_lv (lv' := [(9, .int (iI (i + 1))), (7, .long (o)), (0, .ref 56), (1, .ref 10), (2, .ref 96), (3, .int (iI (sd))), (4, .int (iI (mn))), (5, .long (all))]) rfl ?_
          exact ih _ _ _ (by omega) (by omega) (by omega) om hH hF
        · refine x_aload_n (i := 1) C dX3_lay_61 rfl rfl ?_
          refine x_getRs (r := 11) C fkX_X3_44 (nlt rfl) rfl (HG.rR hH (k := 10) (i := 5) rfl rfl) dX3_lay_62 ?_
          refine x_iload C dX3_lay_65 rfl ?_
          refine x_iald C (nlt rfl) rfl rfl (nle rfl) (by omega) (by omega) dX3_lay_67 ?_
          refine x_gen (fun v17 ev17 => ?_)
          have qv17 : ((-2147483648) : Int) ≤ v17 ∧ v17 ≤ (2147483647 : Int) := by
            rw [ev17]
            exact hH.rA (k := 11) (n := 6) (p := ((-2147483648), 2147483647)) (nlt rfl) rfl (by decide +kernel) (by omega)
          refine x_iload_n (i := 3) C dX3_lay_68 rfl rfl ?_
          refine x_icmp_ne (tgt := 91) C dX3_lay_69 (by decide) ⟨by omega, by omega⟩ ⟨by omega, by omega⟩ (fun h18 => ?_) (fun h18 => ?_)
          · refine x_aload_n (i := 0) C dX3_lay_91 rfl rfl ?_
            refine x_dup C dX3_lay_92 rfl ?_
            refine x_getL C fkX_X3_38 (nlt rfl) rfl dX3_lay_93 ?_
            refine x_genL (fun l19 el19 => ?_)
            refine x_aload_n (i := 2) C dX3_lay_96 rfl rfl ?_
            refine x_iload C dX3_lay_97 rfl ?_
            refine x_iald C (nlt rfl) rfl rfl (nle rfl) (by omega) (by omega) dX3_lay_99 ?_
            refine x_gen (fun v20 ev20 => ?_)
            have qv20 : ((-2147483648) : Int) ≤ v20 ∧ v20 ≤ (2147483647 : Int) := by
              rw [ev20]
              exact hH.rA (k := 96) (n := 6) (p := ((-2147483648), 2147483647)) (nlt rfl) rfl (by decide +kernel) (by omega)
            refine x_callSN (As := [.int (iI (v20))]) C (by exact (xf_bit (f := v20))) cnX3_28 rfl rfl (nle rfl) (by exact ⟨nle rfl, nle rfl⟩) dX3_lay_100 ?_
            rintro _ Xl21 ⟨hxl21, rfl⟩
            rw [hxl21]
            refine Wx_st (st' := [.long ((1 : Int64) <<< ((iI (v20)).toInt64 &&& 63)), .long (l19), .ref 56]) rfl ?_
            refine x_genL (fun l21 el21 => ?_)
            refine Wx_st (st' := [.long (l21), .long (l19), .ref 56]) rfl ?_
            refine x_lor C dX3_lay_103 ?_
            refine x_genL (fun l22 el22 => ?_)
            refine x_putL C pkX_X3_38 (nlt rfl) rfl dX3_lay_104 ?_
            refine x_gX (fun Yy23 eYy23 => ?_)
            have hHy23 : HG vX Yy23 := by
              rw [eYy23]
              exact hg_wLF hH (p := ((-9223372036854775808), 9223372036854775807)) rfl (l64 _)
            have hFy23 : FR (cMd k_X_338) X0 Yy23 := by
              rw [eYy23]
              exact FR.upL hF (rfl)
            replace eYy23 : Yy23 = upL X 56 2 (l22) := eYy23
            refine x_iinc (lv' := [(9, .int (iI (i + 1))), (7, .long (o)), (0, .ref 56), (1, .ref 10), (2, .ref 96), (3, .int (iI (sd))), (4, .int (iI (mn))), (5, .long (all))]) C dX3_lay_107 rfl (nlt rfl) rfl ?_
            refine x_goto (tgt := 37) C dX3_lay_110 (by decide) ?_
            refine Wx_pick [9, 7, 0, 1, 2, 3, 4, 5] ?_
            refine Wx_lv (lv' := [(9, .int (iI (i + 1))), (7, .long (o)), (0, .ref 56), (1, .ref 10), (2, .ref 96), (3, .int (iI (sd))), (4, .int (iI (mn))), (5, .long (all))]) rfl ?_
            exact ih _ _ _ (by omega) (by omega) (by omega) om hHy23 hFy23
          · refine x_lload C dX3_lay_72 rfl ?_
            refine x_aload_n (i := 2) C dX3_lay_74 rfl rfl ?_
            refine x_iload C dX3_lay_75 rfl ?_
            refine x_iald C (nlt rfl) rfl rfl (nle rfl) (by omega) (by omega) dX3_lay_77 ?_
            refine x_gen (fun v24 ev24 => ?_)
            have qv24 : ((-2147483648) : Int) ≤ v24 ∧ v24 ≤ (2147483647 : Int) := by
              rw [ev24]
              exact hH.rA (k := 96) (n := 6) (p := ((-2147483648), 2147483647)) (nlt rfl) rfl (by decide +kernel) (by omega)
            refine x_callSN (As := [.int (iI (v24))]) C (by exact (xf_bit (f := v24))) cnX3_28 rfl rfl (nle rfl) (by exact ⟨nle rfl, nle rfl⟩) dX3_lay_78 ?_
            rintro _ Xl25 ⟨hxl25, rfl⟩
            rw [hxl25]
            refine Wx_st (st' := [.long ((1 : Int64) <<< ((iI (v24)).toInt64 &&& 63)), .long (o)]) rfl ?_
            refine x_genL (fun l25 el25 => ?_)
            refine Wx_st (st' := [.long (l25), .long (o)]) rfl ?_
            refine x_ldc2 C dX3_lay_81 cnX3_36 ?_
            refine x_lxor C dX3_lay_84 ?_
            refine x_genL (fun l26 el26 => ?_)
            refine x_land C dX3_lay_85 ?_
            refine x_genL (fun l27 el27 => ?_)
            refine x_lstore (lv' := [(7, .long (l27)), (9, .int (iI (i))), (0, .ref 56), (1, .ref 10), (2, .ref 96), (3, .int (iI (sd))), (4, .int (iI (mn))), (5, .long (all))]) C dX3_lay_86 (nlt rfl) rfl ?_
            refine x_goto (tgt := 107) C dX3_lay_88 (by decide) ?_
            refine x_iinc (lv' := [(9, .int (iI (i + 1))), (7, .long (l27)), (0, .ref 56), (1, .ref 10), (2, .ref 96), (3, .int (iI (sd))), (4, .int (iI (mn))), (5, .long (all))]) C dX3_lay_107 rfl (nlt rfl) rfl ?_
            refine x_goto (tgt := 37) C dX3_lay_110 (by decide) ?_
            refine Wx_pick [9, 7, 0, 1, 2, 3, 4, 5] ?_
            refine Wx_lv (lv' := [(9, .int (iI (i + 1))), (7, .long (l27)), (0, .ref 56), (1, .ref 10), (2, .ref 96), (3, .int (iI (sd))), (4, .int (iI (mn))), (5, .long (all))]) rfl ?_
            exact ih _ _ _ (by omega) (by omega) (by omega) (by rw [el27]; exact m36_and om) hH hF
set_option maxHeartbeats 4000000 in
set_option maxRecDepth 100000 in
theorem xf_lay56_10_96 {D : va_G} {ad : Nat → Nat} {cA : Nat → ClassId} {X0 : XT} {sd mn : Int} (ss : inR sd) (mm : inR mn) (hH : HG vX X0) (hF : FR (cMd k_X_338) X0 X0) : MetX (wX D ad cA) yX3_lay cX3_lay 10 none 2 49 [.ref 56, .ref 10, .ref 96, .int (iI (sd)), .int (iI (mn))] X0 (fun r X1 => r = none ∧ HG vX X1 ∧ FR (cMd k_X_338) X0 X1 ∧ GOKP 57 58 X1) := by
  have ss' := ss
  have mm' := mm
  unfold inR at ss' mm'
  refine MetX.mk (own := RX3) (by decide +kernel) rfl (nle rfl) (fun E C hQ => ?_)
  refine Wx_lv (lv' := [(0, .ref 56), (1, .ref 10), (2, .ref 96), (3, .int (iI (sd))), (4, .int (iI (mn)))]) rfl ?_
  refine x_aload_n (i := 1) C dX3_lay_0 rfl rfl ?_
  refine x_getI C fkX_X3_19 (nlt rfl) rfl dX3_lay_1 ?_
  refine x_gen (fun v1 ev1 => ?_)
  have qv1 : (0 : Int) ≤ v1 ∧ v1 ≤ (6 : Int) := by
    rw [ev1]
    exact hH.rF (k := 10) (i := 0) rfl rfl
  refine x_aload_n (i := 1) C dX3_lay_4 rfl rfl ?_
  refine x_getI C fkX_X3_25 (nlt rfl) rfl dX3_lay_5 ?_
  refine x_gen (fun v2 ev2 => ?_)
  have qv2 : (0 : Int) ≤ v2 ∧ v2 ≤ (6 : Int) := by
    rw [ev2]
    exact hH.rF (k := 10) (i := 1) rfl rfl
  refine x_imul C dX3_lay_8 ?_
  refine x_callSN (As := [.int (iI (v1 * v2))]) C (by exact (xf_bit (f := v1 * v2))) cnX3_28 rfl rfl (nle rfl) (by exact ⟨nle rfl, nle rfl⟩) dX3_lay_9 ?_
  rintro _ Xl3 ⟨hxl3, rfl⟩
  rw [hxl3]
  refine Wx_st (st' := [.long ((1 : Int64) <<< ((iI (v1 * v2)).toInt64 &&& 63))]) rfl ?_
  refine x_genL (fun l3 el3 => ?_)
  refine Wx_st (st' := [.long (l3)]) rfl ?_
  refine x_lconst C dX3_lay_12 ?_
  refine x_eqL (b := 1) rfl ?_
  refine x_lsub C dX3_lay_13 ?_
  refine x_genL (fun l4 el4 => ?_)
  refine x_lstore (lv' := [(5, .long (l4)), (0, .ref 56), (1, .ref 10), (2, .ref 96), (3, .int (iI (sd))), (4, .int (iI (mn)))]) C dX3_lay_14 (nlt rfl) rfl ?_
  refine x_lload C dX3_lay_16 rfl ?_
  refine x_aload_n (i := 1) C dX3_lay_18 rfl rfl ?_
  refine x_getL C fkX_X3_32 (nlt rfl) rfl dX3_lay_19 ?_
  refine x_genL (fun l5 el5 => ?_)
  refine x_ldc2 C dX3_lay_22 cnX3_36 ?_
  refine x_lxor C dX3_lay_25 ?_
  refine x_genL (fun l6 el6 => ?_)
  refine x_land C dX3_lay_26 ?_
  refine x_genL (fun l7 el7 => ?_)
  refine x_lstore (lv' := [(7, .long (l7)), (5, .long (l4)), (0, .ref 56), (1, .ref 10), (2, .ref 96), (3, .int (iI (sd))), (4, .int (iI (mn)))]) C dX3_lay_27 (nlt rfl) rfl ?_
  refine x_aload_n (i := 0) C dX3_lay_29 rfl rfl ?_
  refine x_lconst C dX3_lay_30 ?_
  refine x_eqL (b := 0) rfl ?_
  refine x_putL C pkX_X3_38 (nlt rfl) rfl dX3_lay_31 ?_
  refine x_gX (fun Yy8 eYy8 => ?_)
  have hHy8 : HG vX Yy8 := by
    rw [eYy8]
    exact hg_wLF hH (p := ((-9223372036854775808), 9223372036854775807)) rfl (l64 _)
  have hFy8 : FR (cMd k_X_338) X0 Yy8 := by
    rw [eYy8]
    exact FR.upL hF (rfl)
  replace eYy8 : Yy8 = upL X0 56 2 (0) := eYy8
  refine x_iconst C dX3_lay_34 ?_
  refine x_istore (lv' := [(9, .int (iI (0))), (7, .long (l7)), (5, .long (l4)), (0, .ref 56), (1, .ref 10), (2, .ref 96), (3, .int (iI (sd))), (4, .int (iI (mn)))]) C dX3_lay_35 (nlt rfl) rfl ?_
  refine Wx_pick [9, 7, 0, 1, 2, 3, 4, 5] ?_
  refine Wx_lv (lv' := [(9, .int (iI (0))), (7, .long (l7)), (0, .ref 56), (1, .ref 10), (2, .ref 96), (3, .int (iI (sd))), (4, .int (iI (mn))), (5, .long (l4))]) rfl ?_
  exact xl_lay56_10_96 ss mm C hQ 7 0 _ _ (by omega) (by omega) (by omega) (by rw [el7]; exact m36_and (by rw [el4, el3]; exact m36_all (wh_36 (by omega) (by omega) (by omega) (by omega)))) hHy8 hFy8
set_option maxRecDepth 10000 in
theorem t_X_338 {D : va_G} {ad : Nat → Nat} {cA : Nat → ClassId} : CTR mtX vX gX (wX D ad cA) k_X_338 := by
  intro g X hpre
  obtain ⟨h00, hei, hel, hdl, hH, hE⟩ := hpre
  have h0 : (0 : Int) ≤ g.1 0 ∧ g.1 0 ≤ (0 : Int) := hei 0 _ rfl
  have h1 : ((-2147483648) : Int) ≤ g.1 1 ∧ g.1 1 ≤ (2147483647 : Int) := hei 1 _ rfl
  have h2 : ((-2147483648) : Int) ≤ g.1 2 ∧ g.1 2 ≤ (2147483647 : Int) := hei 2 _ rfl
  refine MetX.imp (fun r X1 hp => ?_) (xf_lay56_10_96 (X0 := X) (sd := g.1 1 + 0) (mn := g.1 2 + 0) ⟨by omega, by omega⟩ ⟨by omega, by omega⟩ hH FR.rf)
  obtain ⟨rfl, hH1, hF1, hG1⟩ := hp
  have e1 := gokX_1 hG1
  exact (altM_mk 0 [1] rfl (ei_cons ⟨by show (0 : Int) ≤ g.1 0; omega, by show g.1 0 ≤ (0 : Int); omega⟩ (ei_cons ⟨by show ((-2147483648) : Int) ≤ g.1 1; omega, by show g.1 1 ≤ (2147483647 : Int); omega⟩ (ei_cons ⟨by show ((-2147483648) : Int) ≤ g.1 2; omega, by show g.1 2 ≤ (2147483647 : Int); omega⟩ (ei_cons ⟨by show (1 : Int) ≤ 1; omega, by show 1 ≤ (1 : Int); omega⟩ ei_nil)))) el_nil (by rfl) (dl_cons (gh_mk rfl (by show gokX 57 58 X1 = (1 : Int) + 0; omega)) dl_nil) gd_nil hH1 (wdX.2.1 X X1 (fun k i hp => hF1 k i (nprX (md := cMd k_X_338) (by decide +kernel) hp)) hE) hF1)
set_option maxHeartbeats 4000000 in
set_option maxRecDepth 100000 in
theorem xl_lay56_10_93 {D : va_G} {ad : Nat → Nat} {cA : Nat → ClassId} {X0 : XT} {all : Int64} {sd mn : Int} (ss : inR sd) (mm : inR mn) {E : ET} (C : CX E (wX D ad cA) cX3_lay 10 RX3 none { frames := 2, cells := 0, slots := 0, locals := 49 }) (hQ : EQ E (wX D ad cA) (fun r X1 => r = none ∧ HG vX X1 ∧ FR (cMd k_X_353) X0 X1 ∧ GOKP 57 58 X1)) : ∀ (n : Nat) (i : Int) (o : Int64) (X : XT), 6 - i < n → 0 ≤ i → i ≤ 6 → m36 o → HG vX X → FR (cMd k_X_353) X0 X → Wx E (wX D ad cA) 10 (PX (wX D ad cA) X) 37 [(9, .int (iI (i))), (7, .long (o)), (0, .ref 56), (1, .ref 10), (2, .ref 93), (3, .int (iI (sd))), (4, .int (iI (mn))), (5, .long (all))] [] := by
  intro n
  induction n with
  | zero => intro i o X hn i0 i1 om hH hF; exfalso; omega
  | succ n ih =>
    intro i o X hn i0 i1 om hH hF
    unfold inR at ss mm
    refine x_iload C dX3_lay_37 rfl ?_
    refine x_aload_n (i := 1) C dX3_lay_39 rfl rfl ?_
    refine x_getI C fkX_X3_41 (nlt rfl) rfl dX3_lay_40 ?_
    refine x_gen (fun v1 ev1 => ?_)
    have qv1 : (0 : Int) ≤ v1 ∧ v1 ≤ (6 : Int) := by
      rw [ev1]
      exact hH.rF (k := 10) (i := 4) rfl rfl
    refine x_icmp_ge (tgt := 113) C dX3_lay_43 (by decide) ⟨by omega, by omega⟩ ⟨by omega, by omega⟩ (fun h2 => ?_) (fun h2 => ?_)
    · refine x_aload_n (i := 0) C dX3_lay_113 rfl rfl ?_
      refine x_aload_n (i := 0) C dX3_lay_114 rfl rfl ?_
      refine x_getL C fkX_X3_38 (nlt rfl) rfl dX3_lay_115 ?_
      refine x_genL (fun l3 el3 => ?_)
      refine x_aload_n (i := 1) C dX3_lay_118 rfl rfl ?_
      refine x_getL C fkX_X3_47 (nlt rfl) rfl dX3_lay_119 ?_
      refine x_genL (fun l4 el4 => ?_)
      refine x_lor C dX3_lay_122 ?_
      refine x_genL (fun l5 el5 => ?_)
      refine x_putL C pkX_X3_50 (nlt rfl) rfl dX3_lay_123 ?_
      refine x_gX (fun Yy6 eYy6 => ?_)
      have hHy6 : HG vX Yy6 := by
        rw [eYy6]
        exact hg_wLF hH (p := ((-9223372036854775808), 9223372036854775807)) rfl (l64 _)
      have hFy6 : FR (cMd k_X_353) X0 Yy6 := by
        rw [eYy6]
        exact FR.upL hF (rfl)
      replace eYy6 : Yy6 = upL X 56 4 (l5) := eYy6
      refine x_aload_n (i := 0) C dX3_lay_126 rfl rfl ?_
      refine x_getRs (r := 58) C fkX_X3_15 (nlt rfl) rfl (HG.rR hHy6 (k := 56) (i := 1) rfl rfl) dX3_lay_127 ?_
      refine x_iconst C dX3_lay_130 ?_
      refine x_aload_n (i := 1) C dX3_lay_131 rfl rfl ?_
      refine x_getI C fkX_X3_19 (nlt rfl) rfl dX3_lay_132 ?_
      refine x_gen (fun v7 ev7 => ?_)
      have qv7 : (0 : Int) ≤ v7 ∧ v7 ≤ (6 : Int) := by
        rw [ev7]
        exact hHy6.rF (k := 10) (i := 0) rfl rfl
      have wv7 : v7 = X0.1 10 0 := by rw [ev7, (hFy6 10 0 rfl).1]
      refine x_ineg C dX3_lay_135 ?_
      refine x_iast C (nlt rfl) rfl rfl (nle rfl) (by omega) (by omega) dX3_lay_136 ?_
      refine x_gX (fun Yy8 eYy8 => ?_)
      have hHy8 : HG vX Yy8 := by
        rw [eYy8]
        exact hg_wA hHy6 (n := 4) (p := ((-6), 6)) (by decide +kernel) (by omega) ⟨by omega, by omega⟩
      have hFy8 : FR (cMd k_X_353) X0 Yy8 := by
        rw [eYy8]
        exact FR.upI hFy6 (rfl)
      replace eYy8 : Yy8 = upI Yy6 58 0 (-v7) := eYy8
      refine x_aload_n (i := 0) C dX3_lay_137 rfl rfl ?_
      refine x_getRs (r := 58) C fkX_X3_15 (nlt rfl) rfl (HG.rR hHy8 (k := 56) (i := 1) rfl rfl) dX3_lay_138 ?_
      refine x_iconst C dX3_lay_141 ?_
      refine x_iconst C dX3_lay_142 ?_
      refine x_iast C (nlt rfl) rfl rfl (nle rfl) (by omega) (by omega) dX3_lay_143 ?_
      refine x_gX (fun Yy9 eYy9 => ?_)
      have hHy9 : HG vX Yy9 := by
        rw [eYy9]
        exact hg_wA hHy8 (n := 4) (p := ((-6), 6)) (by decide +kernel) (by omega) ⟨by omega, by omega⟩
      have hFy9 : FR (cMd k_X_353) X0 Yy9 := by
        rw [eYy9]
        exact FR.upI hFy8 (rfl)
      replace eYy9 : Yy9 = upI Yy8 58 1 (1) := eYy9
      refine x_aload_n (i := 0) C dX3_lay_144 rfl rfl ?_
      refine x_getRs (r := 58) C fkX_X3_15 (nlt rfl) rfl (HG.rR hHy9 (k := 56) (i := 1) rfl rfl) dX3_lay_145 ?_
      refine x_iconst C dX3_lay_148 ?_
      refine x_aload_n (i := 1) C dX3_lay_149 rfl rfl ?_
      refine x_getI C fkX_X3_19 (nlt rfl) rfl dX3_lay_150 ?_
      refine x_gen (fun v10 ev10 => ?_)
      have qv10 : (0 : Int) ≤ v10 ∧ v10 ≤ (6 : Int) := by
        rw [ev10]
        exact hHy9.rF (k := 10) (i := 0) rfl rfl
      have wv10 : v10 = X0.1 10 0 := by rw [ev10, (hFy9 10 0 rfl).1]
      refine x_iast C (nlt rfl) rfl rfl (nle rfl) (by omega) (by omega) dX3_lay_153 ?_
      refine x_gX (fun Yy11 eYy11 => ?_)
      have hHy11 : HG vX Yy11 := by
        rw [eYy11]
        exact hg_wA hHy9 (n := 4) (p := ((-6), 6)) (by decide +kernel) (by omega) ⟨by omega, by omega⟩
      have hFy11 : FR (cMd k_X_353) X0 Yy11 := by
        rw [eYy11]
        exact FR.upI hFy9 (rfl)
      replace eYy11 : Yy11 = upI Yy9 58 2 (v10) := eYy11
      refine x_aload_n (i := 0) C dX3_lay_154 rfl rfl ?_
      refine x_getRs (r := 58) C fkX_X3_15 (nlt rfl) rfl (HG.rR hHy11 (k := 56) (i := 1) rfl rfl) dX3_lay_155 ?_
      refine x_iconst C dX3_lay_158 ?_
      refine x_iconst C dX3_lay_159 ?_
      refine x_iast C (nlt rfl) rfl rfl (nle rfl) (by omega) (by omega) dX3_lay_160 ?_
      refine x_gX (fun Yy12 eYy12 => ?_)
      have hHy12 : HG vX Yy12 := by
        rw [eYy12]
        exact hg_wA hHy11 (n := 4) (p := ((-6), 6)) (by decide +kernel) (by omega) ⟨by omega, by omega⟩
      have hFy12 : FR (cMd k_X_353) X0 Yy12 := by
        rw [eYy12]
        exact FR.upI hFy11 (rfl)
      replace eYy12 : Yy12 = upI Yy11 58 3 ((-1)) := eYy12
      refine x_aload_n (i := 0) C dX3_lay_161 rfl rfl ?_
      refine x_aload_n (i := 1) C dX3_lay_162 rfl rfl ?_
      refine x_lload C dX3_lay_163 rfl ?_
      refine x_lload C dX3_lay_165 rfl ?_
      refine x_callV (As := [.ref 10, .long (all), .long (o)]) C (by exact (xf_layN56_10 (all := all) (op := o) hHy12 FR.rf)) ckX3_53 im_X3_layNeighbours se_X3_layNeighbours (nlt rfl) rfl rfl rfl rfl (nle rfl) (by exact ⟨nle rfl, nle rfl⟩) dX3_lay_167 ?_
      rintro _ Yy13 ⟨rfl, hHy13, hGy13, P0y13, P1y13, P2y13, P3y13⟩
      have hFy13 : FR (cMd k_X_353) X0 Yy13 := FR.tr hFy12 hGy13 (by decide)
      refine Wx_st (st' := []) rfl ?_
      exact x_vret C hQ dX3_lay_170 (⟨rfl, hHy13, hFy13, by (intro s hs j hj ht); (have lt : ∀ i, tb o i = true → i < 36 := fun i hi => by (by_cases q : i < 36); (exact q); (rw [m36_iff.mp om i (by omega)] at hi; cases hi)); (rcases (show s = 0 ∨ s = 1 ∨ s = 2 ∨ s = 3 by omega) with rfl | rfl | rfl | rfl); ((have p := P0y13 j hj ht); (have := lt _ p.2); (rw [(hGy13 58 0 rfl).1, eYy12, upI_ne (by decide), eYy11, upI_ne (by decide), eYy9, upI_ne (by decide), eYy8, upI_at]); (have p1 := p.1); (have wq := (show Yy12.1 10 0 = v10 by rw [(hFy12 10 0 rfl).1, wv10])); (rw [wq] at this p1); (omega)); ((have := lt _ (P1y13 j hj ht)); (rw [(hGy13 58 1 rfl).1, eYy12, upI_ne (by decide), eYy11, upI_ne (by decide), eYy9, upI_at]); (omega)); ((have := lt _ (P2y13 j hj ht)); (rw [(hGy13 58 2 rfl).1, eYy12, upI_ne (by decide), eYy11, upI_at]); (have wq := (show Yy12.1 10 0 = v10 by rw [(hFy12 10 0 rfl).1, wv10])); (rw [wq] at this); (omega)); ((have p := P3y13 j hj ht); (have := lt _ p.2); (rw [(hGy13 58 3 rfl).1, eYy12, upI_at]); (have p1 := p.1); (omega))⟩)
    · refine x_iload C dX3_lay_46 rfl ?_
      refine x_iload C dX3_lay_48 rfl ?_
      refine x_icmp_eq (tgt := 107) C dX3_lay_50 (by decide) ⟨by omega, by omega⟩ ⟨by omega, by omega⟩ (fun h14 => ?_) (fun h14 => ?_)
      · refine x_iinc (lv' := [(9, .int (iI (i + 1))), (7, .long (o)), (0, .ref 56), (1, .ref 10), (2, .ref 93), (3, .int (iI (sd))), (4, .int (iI (mn))), (5, .long (all))]) C dX3_lay_107 rfl (nlt rfl) rfl ?_
        refine x_goto (tgt := 37) C dX3_lay_110 (by decide) ?_
        refine Wx_pick [9, 7, 0, 1, 2, 3, 4, 5] ?_
        refine Wx_lv (lv' := [(9, .int (iI (i + 1))), (7, .long (o)), (0, .ref 56), (1, .ref 10), (2, .ref 93), (3, .int (iI (sd))), (4, .int (iI (mn))), (5, .long (all))]) rfl ?_
        exact ih _ _ _ (by omega) (by omega) (by omega) om hH hF
      · refine x_aload_n (i := 2) C dX3_lay_53 rfl rfl ?_
        refine x_iload C dX3_lay_54 rfl ?_
        refine x_iald C (nlt rfl) rfl rfl (nle rfl) (by omega) (by omega) dX3_lay_56 ?_
        refine x_gen (fun v15 ev15 => ?_)
        have qv15 : ((-2147483648) : Int) ≤ v15 ∧ v15 ≤ (2147483647 : Int) := by
          rw [ev15]
          exact hH.rA (k := 93) (n := 6) (p := ((-2147483648), 2147483647)) (nlt rfl) rfl (by decide +kernel) (by omega)
        refine x_iconst C dX3_lay_57 ?_
        refine x_icmp_eq (tgt := 107) C dX3_lay_58 (by decide) ⟨by omega, by omega⟩ ⟨by omega, by omega⟩ (fun h16 => ?_) (fun h16 => ?_)
        · refine x_iinc (lv' := [(9, .int (iI (i + 1))), (7, .long (o)), (0, .ref 56), (1, .ref 10), (2, .ref 93), (3, .int (iI (sd))), (4, .int (iI (mn))), (5, .long (all))]) C dX3_lay_107 rfl (nlt rfl) rfl ?_
          refine x_goto (tgt := 37) C dX3_lay_110 (by decide) ?_
          refine Wx_pick [9, 7, 0, 1, 2, 3, 4, 5] ?_
          refine Wx_lv (lv' := [(9, .int (iI (i + 1))), (7, .long (o)), (0, .ref 56), (1, .ref 10), (2, .ref 93), (3, .int (iI (sd))), (4, .int (iI (mn))), (5, .long (all))]) rfl ?_
          exact ih _ _ _ (by omega) (by omega) (by omega) om hH hF
        · refine x_aload_n (i := 1) C dX3_lay_61 rfl rfl ?_
          refine x_getRs (r := 11) C fkX_X3_44 (nlt rfl) rfl (HG.rR hH (k := 10) (i := 5) rfl rfl) dX3_lay_62 ?_
          refine x_iload C dX3_lay_65 rfl ?_
          refine x_iald C (nlt rfl) rfl rfl (nle rfl) (by omega) (by omega) dX3_lay_67 ?_
          refine x_gen (fun v17 ev17 => ?_)
          have qv17 : ((-2147483648) : Int) ≤ v17 ∧ v17 ≤ (2147483647 : Int) := by
            rw [ev17]
            exact hH.rA (k := 11) (n := 6) (p := ((-2147483648), 2147483647)) (nlt rfl) rfl (by decide +kernel) (by omega)
          refine x_iload_n (i := 3) C dX3_lay_68 rfl rfl ?_
          refine x_icmp_ne (tgt := 91) C dX3_lay_69 (by decide) ⟨by omega, by omega⟩ ⟨by omega, by omega⟩ (fun h18 => ?_) (fun h18 => ?_)
          · refine x_aload_n (i := 0) C dX3_lay_91 rfl rfl ?_
            refine x_dup C dX3_lay_92 rfl ?_
            refine x_getL C fkX_X3_38 (nlt rfl) rfl dX3_lay_93 ?_
            refine x_genL (fun l19 el19 => ?_)
            refine x_aload_n (i := 2) C dX3_lay_96 rfl rfl ?_
            refine x_iload C dX3_lay_97 rfl ?_
            refine x_iald C (nlt rfl) rfl rfl (nle rfl) (by omega) (by omega) dX3_lay_99 ?_
            refine x_gen (fun v20 ev20 => ?_)
            have qv20 : ((-2147483648) : Int) ≤ v20 ∧ v20 ≤ (2147483647 : Int) := by
              rw [ev20]
              exact hH.rA (k := 93) (n := 6) (p := ((-2147483648), 2147483647)) (nlt rfl) rfl (by decide +kernel) (by omega)
            refine x_callSN (As := [.int (iI (v20))]) C (by exact (xf_bit (f := v20))) cnX3_28 rfl rfl (nle rfl) (by exact ⟨nle rfl, nle rfl⟩) dX3_lay_100 ?_
            rintro _ Xl21 ⟨hxl21, rfl⟩
            rw [hxl21]
            refine Wx_st (st' := [.long ((1 : Int64) <<< ((iI (v20)).toInt64 &&& 63)), .long (l19), .ref 56]) rfl ?_
            refine x_genL (fun l21 el21 => ?_)
            refine Wx_st (st' := [.long (l21), .long (l19), .ref 56]) rfl ?_
            refine x_lor C dX3_lay_103 ?_
            refine x_genL (fun l22 el22 => ?_)
            refine x_putL C pkX_X3_38 (nlt rfl) rfl dX3_lay_104 ?_
            refine x_gX (fun Yy23 eYy23 => ?_)
            have hHy23 : HG vX Yy23 := by
              rw [eYy23]
              exact hg_wLF hH (p := ((-9223372036854775808), 9223372036854775807)) rfl (l64 _)
            have hFy23 : FR (cMd k_X_353) X0 Yy23 := by
              rw [eYy23]
              exact FR.upL hF (rfl)
            replace eYy23 : Yy23 = upL X 56 2 (l22) := eYy23
            refine x_iinc (lv' := [(9, .int (iI (i + 1))), (7, .long (o)), (0, .ref 56), (1, .ref 10), (2, .ref 93), (3, .int (iI (sd))), (4, .int (iI (mn))), (5, .long (all))]) C dX3_lay_107 rfl (nlt rfl) rfl ?_
            refine x_goto (tgt := 37) C dX3_lay_110 (by decide) ?_
            refine Wx_pick [9, 7, 0, 1, 2, 3, 4, 5] ?_
            refine Wx_lv (lv' := [(9, .int (iI (i + 1))), (7, .long (o)), (0, .ref 56), (1, .ref 10), (2, .ref 93), (3, .int (iI (sd))), (4, .int (iI (mn))), (5, .long (all))]) rfl ?_
            exact ih _ _ _ (by omega) (by omega) (by omega) om hHy23 hFy23
          · refine x_lload C dX3_lay_72 rfl ?_
            refine x_aload_n (i := 2) C dX3_lay_74 rfl rfl ?_
            refine x_iload C dX3_lay_75 rfl ?_
            refine x_iald C (nlt rfl) rfl rfl (nle rfl) (by omega) (by omega) dX3_lay_77 ?_
            refine x_gen (fun v24 ev24 => ?_)
            have qv24 : ((-2147483648) : Int) ≤ v24 ∧ v24 ≤ (2147483647 : Int) := by
              rw [ev24]
              exact hH.rA (k := 93) (n := 6) (p := ((-2147483648), 2147483647)) (nlt rfl) rfl (by decide +kernel) (by omega)
            refine x_callSN (As := [.int (iI (v24))]) C (by exact (xf_bit (f := v24))) cnX3_28 rfl rfl (nle rfl) (by exact ⟨nle rfl, nle rfl⟩) dX3_lay_78 ?_
            rintro _ Xl25 ⟨hxl25, rfl⟩
            rw [hxl25]
            refine Wx_st (st' := [.long ((1 : Int64) <<< ((iI (v24)).toInt64 &&& 63)), .long (o)]) rfl ?_
            refine x_genL (fun l25 el25 => ?_)
            refine Wx_st (st' := [.long (l25), .long (o)]) rfl ?_
            refine x_ldc2 C dX3_lay_81 cnX3_36 ?_
            refine x_lxor C dX3_lay_84 ?_
            refine x_genL (fun l26 el26 => ?_)
            refine x_land C dX3_lay_85 ?_
            refine x_genL (fun l27 el27 => ?_)
            refine x_lstore (lv' := [(7, .long (l27)), (9, .int (iI (i))), (0, .ref 56), (1, .ref 10), (2, .ref 93), (3, .int (iI (sd))), (4, .int (iI (mn))), (5, .long (all))]) C dX3_lay_86 (nlt rfl) rfl ?_
            refine x_goto (tgt := 107) C dX3_lay_88 (by decide) ?_
            refine x_iinc (lv' := [(9, .int (iI (i + 1))), (7, .long (l27)), (0, .ref 56), (1, .ref 10), (2, .ref 93), (3, .int (iI (sd))), (4, .int (iI (mn))), (5, .long (all))]) C dX3_lay_107 rfl (nlt rfl) rfl ?_
            refine x_goto (tgt := 37) C dX3_lay_110 (by decide) ?_
            refine Wx_pick [9, 7, 0, 1, 2, 3, 4, 5] ?_
            refine Wx_lv (lv' := [(9, .int (iI (i + 1))), (7, .long (l27)), (0, .ref 56), (1, .ref 10), (2, .ref 93), (3, .int (iI (sd))), (4, .int (iI (mn))), (5, .long (all))]) rfl ?_
            exact ih _ _ _ (by omega) (by omega) (by omega) (by rw [el27]; exact m36_and om) hH hF
set_option maxHeartbeats 4000000 in
set_option maxRecDepth 100000 in
theorem xf_lay56_10_93 {D : va_G} {ad : Nat → Nat} {cA : Nat → ClassId} {X0 : XT} {sd mn : Int} (ss : inR sd) (mm : inR mn) (hH : HG vX X0) (hF : FR (cMd k_X_353) X0 X0) : MetX (wX D ad cA) yX3_lay cX3_lay 10 none 2 49 [.ref 56, .ref 10, .ref 93, .int (iI (sd)), .int (iI (mn))] X0 (fun r X1 => r = none ∧ HG vX X1 ∧ FR (cMd k_X_353) X0 X1 ∧ GOKP 57 58 X1) := by
  have ss' := ss
  have mm' := mm
  unfold inR at ss' mm'
  refine MetX.mk (own := RX3) (by decide +kernel) rfl (nle rfl) (fun E C hQ => ?_)
  refine Wx_lv (lv' := [(0, .ref 56), (1, .ref 10), (2, .ref 93), (3, .int (iI (sd))), (4, .int (iI (mn)))]) rfl ?_
  refine x_aload_n (i := 1) C dX3_lay_0 rfl rfl ?_
  refine x_getI C fkX_X3_19 (nlt rfl) rfl dX3_lay_1 ?_
  refine x_gen (fun v1 ev1 => ?_)
  have qv1 : (0 : Int) ≤ v1 ∧ v1 ≤ (6 : Int) := by
    rw [ev1]
    exact hH.rF (k := 10) (i := 0) rfl rfl
  refine x_aload_n (i := 1) C dX3_lay_4 rfl rfl ?_
  refine x_getI C fkX_X3_25 (nlt rfl) rfl dX3_lay_5 ?_
  refine x_gen (fun v2 ev2 => ?_)
  have qv2 : (0 : Int) ≤ v2 ∧ v2 ≤ (6 : Int) := by
    rw [ev2]
    exact hH.rF (k := 10) (i := 1) rfl rfl
  refine x_imul C dX3_lay_8 ?_
  refine x_callSN (As := [.int (iI (v1 * v2))]) C (by exact (xf_bit (f := v1 * v2))) cnX3_28 rfl rfl (nle rfl) (by exact ⟨nle rfl, nle rfl⟩) dX3_lay_9 ?_
  rintro _ Xl3 ⟨hxl3, rfl⟩
  rw [hxl3]
  refine Wx_st (st' := [.long ((1 : Int64) <<< ((iI (v1 * v2)).toInt64 &&& 63))]) rfl ?_
  refine x_genL (fun l3 el3 => ?_)
  refine Wx_st (st' := [.long (l3)]) rfl ?_
  refine x_lconst C dX3_lay_12 ?_
  refine x_eqL (b := 1) rfl ?_
  refine x_lsub C dX3_lay_13 ?_
  refine x_genL (fun l4 el4 => ?_)
  refine x_lstore (lv' := [(5, .long (l4)), (0, .ref 56), (1, .ref 10), (2, .ref 93), (3, .int (iI (sd))), (4, .int (iI (mn)))]) C dX3_lay_14 (nlt rfl) rfl ?_
  refine x_lload C dX3_lay_16 rfl ?_
  refine x_aload_n (i := 1) C dX3_lay_18 rfl rfl ?_
  refine x_getL C fkX_X3_32 (nlt rfl) rfl dX3_lay_19 ?_
  refine x_genL (fun l5 el5 => ?_)
  refine x_ldc2 C dX3_lay_22 cnX3_36 ?_
  refine x_lxor C dX3_lay_25 ?_
  refine x_genL (fun l6 el6 => ?_)
  refine x_land C dX3_lay_26 ?_
  refine x_genL (fun l7 el7 => ?_)
  refine x_lstore (lv' := [(7, .long (l7)), (5, .long (l4)), (0, .ref 56), (1, .ref 10), (2, .ref 93), (3, .int (iI (sd))), (4, .int (iI (mn)))]) C dX3_lay_27 (nlt rfl) rfl ?_
  refine x_aload_n (i := 0) C dX3_lay_29 rfl rfl ?_
  refine x_lconst C dX3_lay_30 ?_
  refine x_eqL (b := 0) rfl ?_
  refine x_putL C pkX_X3_38 (nlt rfl) rfl dX3_lay_31 ?_
  refine x_gX (fun Yy8 eYy8 => ?_)
  have hHy8 : HG vX Yy8 := by
    rw [eYy8]
    exact hg_wLF hH (p := ((-9223372036854775808), 9223372036854775807)) rfl (l64 _)
  have hFy8 : FR (cMd k_X_353) X0 Yy8 := by
    rw [eYy8]
    exact FR.upL hF (rfl)
  replace eYy8 : Yy8 = upL X0 56 2 (0) := eYy8
  refine x_iconst C dX3_lay_34 ?_
  refine x_istore (lv' := [(9, .int (iI (0))), (7, .long (l7)), (5, .long (l4)), (0, .ref 56), (1, .ref 10), (2, .ref 93), (3, .int (iI (sd))), (4, .int (iI (mn)))]) C dX3_lay_35 (nlt rfl) rfl ?_
  refine Wx_pick [9, 7, 0, 1, 2, 3, 4, 5] ?_
  refine Wx_lv (lv' := [(9, .int (iI (0))), (7, .long (l7)), (0, .ref 56), (1, .ref 10), (2, .ref 93), (3, .int (iI (sd))), (4, .int (iI (mn))), (5, .long (l4))]) rfl ?_
  exact xl_lay56_10_93 ss mm C hQ 7 0 _ _ (by omega) (by omega) (by omega) (by rw [el7]; exact m36_and (by rw [el4, el3]; exact m36_all (wh_36 (by omega) (by omega) (by omega) (by omega)))) hHy8 hFy8
set_option maxRecDepth 10000 in
theorem t_X_353 {D : va_G} {ad : Nat → Nat} {cA : Nat → ClassId} : CTR mtX vX gX (wX D ad cA) k_X_353 := by
  intro g X hpre
  obtain ⟨h00, hei, hel, hdl, hH, hE⟩ := hpre
  have h0 : (0 : Int) ≤ g.1 0 ∧ g.1 0 ≤ (0 : Int) := hei 0 _ rfl
  have h1 : ((-2147483648) : Int) ≤ g.1 1 ∧ g.1 1 ≤ (2147483647 : Int) := hei 1 _ rfl
  have h2 : ((-2147483648) : Int) ≤ g.1 2 ∧ g.1 2 ≤ (2147483647 : Int) := hei 2 _ rfl
  refine MetX.imp (fun r X1 hp => ?_) (xf_lay56_10_93 (X0 := X) (sd := g.1 1 + 0) (mn := g.1 2 + 0) ⟨by omega, by omega⟩ ⟨by omega, by omega⟩ hH FR.rf)
  obtain ⟨rfl, hH1, hF1, hG1⟩ := hp
  have e1 := gokX_1 hG1
  exact (altM_mk 0 [1] rfl (ei_cons ⟨by show (0 : Int) ≤ g.1 0; omega, by show g.1 0 ≤ (0 : Int); omega⟩ (ei_cons ⟨by show ((-2147483648) : Int) ≤ g.1 1; omega, by show g.1 1 ≤ (2147483647 : Int); omega⟩ (ei_cons ⟨by show ((-2147483648) : Int) ≤ g.1 2; omega, by show g.1 2 ≤ (2147483647 : Int); omega⟩ (ei_cons ⟨by show (1 : Int) ≤ 1; omega, by show 1 ≤ (1 : Int); omega⟩ ei_nil)))) el_nil (by rfl) (dl_cons (gh_mk rfl (by show gokX 57 58 X1 = (1 : Int) + 0; omega)) dl_nil) gd_nil hH1 (wdX.2.1 X X1 (fun k i hp => hF1 k i (nprX (md := cMd k_X_353) (by decide +kernel) hp)) hE) hF1)
set_option maxHeartbeats 4000000 in
set_option maxRecDepth 100000 in
theorem xs_stepTo31 {D : va_G} {ad : Nat → Nat} {cA : Nat → ClassId} {X : XT} {f s : Int} (f0 : -1 ≤ f) (f1 : f ≤ 35) (s0 : 0 ≤ s) (s1 : s ≤ 3) (hH : HG vX X) (hg : GOKP 32 33 X) : MetX (wX D ad cA) yX3_stepTo cX3_stepTo 3 (some .int) 1 22 [.ref 31, .int (iI (f)), .int (iI (s))] X (fun r X' => X' = X ∧ ∃ u : Int, r = some (.int (iI u)) ∧ (u = -1 ∨ (0 ≤ u ∧ u ≤ 35))) := by
  refine MetX.mk (own := RX3) (by decide +kernel) rfl (nle rfl) (fun E C hQ => ?_)
  refine Wx_lv (lv' := [(0, .ref 31), (1, .int (iI (f))), (2, .int (iI (s)))]) rfl ?_
  refine x_aload_n (i := 0) C dX3_stepTo_0 rfl rfl ?_
  refine x_getRs (r := 32) C fkX_X3_9 (nlt rfl) rfl (HG.rR hH (k := 31) (i := 0) rfl rfl) dX3_stepTo_1 ?_
  refine x_iload_n (i := 2) C dX3_stepTo_4 rfl rfl ?_
  refine x_lald C (nlt rfl) rfl rfl (nle rfl) (by omega) (by omega) dX3_stepTo_5 ?_
  refine x_genL (fun l1 el1 => ?_)
  refine x_iload_n (i := 1) C dX3_stepTo_6 rfl rfl ?_
  refine x_callSN (As := [.long (l1), .int (iI (f))]) C (by exact (xf_has (z := l1) (i := f))) cnX3_60 rfl rfl (nle rfl) (by exact ⟨nle rfl, nle rfl⟩) dX3_stepTo_7 ?_
  rintro _ Xv2 ⟨hxv2, v2, rfl, ev2⟩
  rw [hxv2]
  have bv2 : 0 ≤ v2 ∧ v2 ≤ 1 := by rw [ev2]; exact zB_01 _
  refine Wx_st (st' := [.int (iI (v2))]) rfl ?_
  refine x_if_eq (tgt := 24) C dX3_stepTo_10 (by decide) ⟨by omega, by omega⟩ (fun h3 => ?_) (fun h3 => ?_)
  · refine x_iconst C dX3_stepTo_24 ?_
    exact x_iret C hQ dX3_stepTo_25 (⟨rfl, _, rfl, .inl rfl⟩)
  · refine x_iload_n (i := 1) C dX3_stepTo_13 rfl rfl ?_
    refine x_aload_n (i := 0) C dX3_stepTo_14 rfl rfl ?_
    refine x_getRs (r := 33) C fkX_X3_15 (nlt rfl) rfl (HG.rR hH (k := 31) (i := 1) rfl rfl) dX3_stepTo_15 ?_
    refine x_iload_n (i := 2) C dX3_stepTo_18 rfl rfl ?_
    refine x_iald C (nlt rfl) rfl rfl (nle rfl) (by omega) (by omega) dX3_stepTo_19 ?_
    refine x_gen (fun v4 ev4 => ?_)
    have qv4 : ((-6) : Int) ≤ v4 ∧ v4 ≤ (6 : Int) := by
      rw [ev4]
      exact hH.rA (k := 33) (n := 4) (p := ((-6), 6)) (nlt rfl) rfl (by decide +kernel) (by omega)
    refine x_iadd C dX3_stepTo_20 ?_
    refine x_goto (tgt := 25) C dX3_stepTo_21 (by decide) ?_
    exact x_iret C hQ dX3_stepTo_25 (⟨rfl, _, rfl, .inr (by have g := hg s.toNat (by omega) (f % 64).toNat (by omega) (by rw [← el1]; (cases q : tb l1 (f % 64).toNat); (rw [q] at ev2; have : zB false = 0 := rfl; omega); rfl); rw [← ev4] at g; omega)⟩)
set_option maxRecDepth 10000 in
theorem t_X_57 {D : va_G} {ad : Nat → Nat} {cA : Nat → ClassId} : CTR mtX vX gX (wX D ad cA) k_X_57 := by
  intro g X hpre
  obtain ⟨h00, hei, hel, hdl, hH, hE⟩ := hpre
  have h0 : (0 : Int) ≤ g.1 0 ∧ g.1 0 ≤ (0 : Int) := hei 0 _ rfl
  have h1 : ((-1) : Int) ≤ g.1 1 ∧ g.1 1 ≤ (35 : Int) := hei 1 _ rfl
  have h2 : (0 : Int) ≤ g.1 2 ∧ g.1 2 ≤ (3 : Int) := hei 2 _ rfl
  have h3 : (1 : Int) ≤ g.1 3 ∧ g.1 3 ≤ (1 : Int) := hei 3 _ rfl
  have e0 : gokX 32 33 X = g.1 3 + 0 := gh_at rfl (hdl ((900, 0), (0, 3, 0)) (.head _))
  refine MetX.imp (fun r X1 hp => ?_) (xs_stepTo31 (X := X) (f := g.1 1 + 0) (s := g.1 2 + 0) (by omega) (by omega) (by omega) (by omega) hH (gokX_p (by omega)))
  obtain ⟨rfl, u, rfl, hu⟩ := hp
  have hu2 : -1 ≤ u ∧ u ≤ 35 := by omega
  exact (altM_mk 0 [u] rfl (ei_cons ⟨by show (0 : Int) ≤ g.1 0; omega, by show g.1 0 ≤ (0 : Int); omega⟩ (ei_cons ⟨by show ((-1) : Int) ≤ g.1 1; omega, by show g.1 1 ≤ (35 : Int); omega⟩ (ei_cons ⟨by show (0 : Int) ≤ g.1 2; omega, by show g.1 2 ≤ (3 : Int); omega⟩ (ei_cons ⟨by show (1 : Int) ≤ g.1 3; omega, by show g.1 3 ≤ (1 : Int); omega⟩ (ei_cons ⟨by show ((-1) : Int) ≤ u; omega, by show u ≤ (35 : Int); omega⟩ ei_nil))))) el_nil (res_v rfl) dl_nil gd_nil hH hE FR.rf)
set_option maxHeartbeats 4000000 in
set_option maxRecDepth 100000 in
theorem xf_isSt39_7 {D : va_G} {ad : Nat → Nat} {cA : Nat → ClassId} {X : XT} {q k : Int} (q0 : 0 ≤ q) (q1 : q ≤ 1) (hb : X.2.2 39 0 = some 7) (hH : HG vX X) (k0 : 0 ≤ k) (k5 : k ≤ 5) : MetX (wX D ad cA) yX7_isStanding cX7_isStanding 3 (some .boolean) 0 0 [.ref 39, .int (iI (k)), .int (iI (q))] X (fun r X' => X' = X ∧ ∃ u : Int, r = some (.int (iI u)) ∧ ((u = 1 ∧ SNT (X.1 8) (X.1 43) q k.toNat) ∨ (u = 0 ∧ ¬ SNT (X.1 8) (X.1 43) q k.toNat))) := by
  refine MetX.mk (own := RX7) (by decide +kernel) rfl (nle rfl) (fun E C hQ => ?_)
  refine Wx_lv (lv' := [(0, .ref 39), (1, .int (iI (k))), (2, .int (iI (q)))]) rfl ?_
  refine x_aload_n (i := 0) C dX7_isStanding_0 rfl rfl ?_
  refine x_getRs (r := 7) C fkX_X7_18 (nlt rfl) rfl hb dX7_isStanding_1 ?_
  refine x_getRs (r := 8) C fkX_X7_40 (nlt rfl) rfl (HG.rR hH (k := 7) (i := 5) rfl rfl) dX7_isStanding_4 ?_
  refine x_iload_n (i := 1) C dX7_isStanding_7 rfl rfl ?_
  refine x_iald C (nlt rfl) rfl rfl (nle rfl) (by omega) (by omega) dX7_isStanding_8 ?_
  refine x_gen (fun v1 ev1 => ?_)
  have qv1 : ((-2147483648) : Int) ≤ v1 ∧ v1 ≤ (2147483647 : Int) := by
    rw [ev1]
    exact hH.rA (k := 8) (n := 6) (p := ((-2147483648), 2147483647)) (nlt rfl) rfl (by decide +kernel) (by omega)
  refine x_iload_n (i := 2) C dX7_isStanding_9 rfl rfl ?_
  refine x_icmp_ne (tgt := 27) C dX7_isStanding_10 (by decide) ⟨by omega, by omega⟩ ⟨by omega, by omega⟩ (fun h2 => ?_) (fun h2 => ?_)
  · refine x_iconst C dX7_isStanding_27 ?_
    exact x_zret C hQ (by omega) dX7_isStanding_28 (⟨rfl, _, rfl, .inr ⟨rfl, fun t => by have t1 := t.1; have t2 := t.2; omega⟩⟩)
  · refine x_aload_n (i := 0) C dX7_isStanding_13 rfl rfl ?_
    refine x_getRs (r := 43) C fkX_X7_9 (nlt rfl) rfl (HG.rR hH (k := 39) (i := 3) rfl rfl) dX7_isStanding_14 ?_
    refine x_iload_n (i := 1) C dX7_isStanding_17 rfl rfl ?_
    refine x_iald C (nlt rfl) rfl rfl (nle rfl) (by omega) (by omega) dX7_isStanding_18 ?_
    refine x_gen (fun v3 ev3 => ?_)
    have qv3 : ((-2147483648) : Int) ≤ v3 ∧ v3 ≤ (2147483647 : Int) := by
      rw [ev3]
      exact hH.rA (k := 43) (n := 6) (p := ((-2147483648), 2147483647)) (nlt rfl) rfl (by decide +kernel) (by omega)
    refine x_iconst C dX7_isStanding_19 ?_
    refine x_icmp_eq (tgt := 27) C dX7_isStanding_20 (by decide) ⟨by omega, by omega⟩ ⟨by omega, by omega⟩ (fun h4 => ?_) (fun h4 => ?_)
    · refine x_iconst C dX7_isStanding_27 ?_
      exact x_zret C hQ (by omega) dX7_isStanding_28 (⟨rfl, _, rfl, .inr ⟨rfl, fun t => by have t1 := t.1; have t2 := t.2; omega⟩⟩)
    · refine x_iconst C dX7_isStanding_23 ?_
      refine x_goto (tgt := 28) C dX7_isStanding_24 (by decide) ?_
      exact x_zret C hQ (by omega) dX7_isStanding_28 (⟨rfl, _, rfl, .inl ⟨rfl, by rw [← ev1]; omega, by rw [← ev3]; omega⟩⟩)
set_option maxHeartbeats 4000000 in
set_option maxRecDepth 100000 in
theorem xl_nxB39_7 {D : va_G} {ad : Nat → Nat} {cA : Nat → ClassId} {X : XT} {q : Int} (q0 : 0 ≤ q) (q1 : q ≤ 1) (hb : X.2.2 39 0 = some 7) (hH : HG vX X) {E : ET} (C : CX E (wX D ad cA) cX7_nextMan 4 RX7 (some .int) { frames := 1, cells := 0, slots := 0, locals := 22 }) (hQ : EQ E (wX D ad cA) (fun r X' => X' = X ∧ ∃ u : Int, r = some (.int (iI u)) ∧ NMT (X.1 7 4) (X.1 8) (X.1 43) (X.1 44 q.toNat) q u)) : ∀ (n : Nat) (i : Int) (l : Int), 7 - i < n → 0 ≤ i → i ≤ 6 → X.1 44 q.toNat < i → LST (X.1 7 4) (X.1 8) (X.1 43) q (-1) l → BHD (X.1 8) (X.1 43) q (X.1 44 q.toNat) i → Wx E (wX D ad cA) 4 (PX (wX D ad cA) X) 42 [(3, .int (iI (i))), (2, .int (iI (l))), (0, .ref 39), (1, .int (iI (q)))] [] := by
  intro n
  induction n with
  | zero => intro i l hn i0 i1 iw hl hw; exfalso; omega
  | succ n ih =>
    intro i l hn i0 i1 iw hl hw
    have hm : (0 : Int) ≤ (X.1 7 4) ∧ (X.1 7 4) ≤ 6 := hH.rF (k := 7) (i := 4) (p := (0, 6)) rfl rfl
    have lb := lst_b hl
    refine x_iload_n (i := 3) C dX7_nextMan_42 rfl rfl ?_
    refine x_aload_n (i := 0) C dX7_nextMan_43 rfl rfl ?_
    refine x_getRs (r := 7) C fkX_X7_18 (nlt rfl) rfl hb dX7_nextMan_44 ?_
    refine x_getI C fkX_X7_43 (nlt rfl) rfl dX7_nextMan_47 ?_
    refine x_gen (fun v1 ev1 => ?_)
    have qv1 : (0 : Int) ≤ v1 ∧ v1 ≤ (6 : Int) := by
      rw [ev1]
      exact hH.rF (k := 7) (i := 4) rfl rfl
    have mv1 : v1 = X.1 7 4 := ev1
    refine x_icmp_ge (tgt := 70) C dX7_nextMan_50 (by decide) ⟨by omega, by omega⟩ ⟨by omega, by omega⟩ (fun h2 => ?_) (fun h2 => ?_)
    · refine x_iload_n (i := 2) C dX7_nextMan_70 rfl rfl ?_
      exact x_iret C hQ dX7_nextMan_71 (⟨rfl, _, rfl, nmt_l hl hw (by omega)⟩)
    · refine x_aload_n (i := 0) C dX7_nextMan_53 rfl rfl ?_
      refine x_iload_n (i := 3) C dX7_nextMan_54 rfl rfl ?_
      refine x_iload_n (i := 1) C dX7_nextMan_55 rfl rfl ?_
      refine x_callV (As := [.int (iI (i)), .int (iI (q))]) C (by exact (xf_isSt39_7 (k := i) q0 q1 hb hH (by omega) (by omega))) ckX7_46 im_X7_isStanding se_X7_isStanding (nlt rfl) rfl rfl rfl rfl (nle rfl) (by exact ⟨nle rfl, nle rfl⟩) dX7_nextMan_56 ?_
      rintro _ Xv3 ⟨hxv3, v3, rfl, ev3⟩
      rw [hxv3]
      refine Wx_st (st' := [.int (iI (v3))]) rfl ?_
      refine x_if_eq (tgt := 64) C dX7_nextMan_59 (by decide) ⟨by omega, by omega⟩ (fun h4 => ?_) (fun h4 => ?_)
      · refine x_iinc (lv' := [(3, .int (iI (i + 1))), (2, .int (iI (l))), (0, .ref 39), (1, .int (iI (q)))]) C dX7_nextMan_64 rfl (nlt rfl) rfl ?_
        refine x_goto (tgt := 42) C dX7_nextMan_67 (by decide) ?_
        refine Wx_pick [3, 2, 0, 1] ?_
        refine Wx_lv (lv' := [(3, .int (iI (i + 1))), (2, .int (iI (l))), (0, .ref 39), (1, .int (iI (q)))]) rfl ?_
        exact ih _ _ (by omega) (by omega) (by omega) (by omega) hl (bhd_n (by omega) hw (ev3.elim (fun t => by exfalso; have := t.1; omega) (fun t => t.2)))
      · refine x_iload_n (i := 3) C dX7_nextMan_62 rfl rfl ?_
        exact x_iret C hQ dX7_nextMan_63 (⟨rfl, _, rfl, nmt_i (by omega) (by omega) (by omega) hw (ev3.elim (fun t => t.2) (fun t => by exfalso; have := t.1; omega))⟩)
set_option maxHeartbeats 4000000 in
set_option maxRecDepth 100000 in
theorem xl_nxA39_7 {D : va_G} {ad : Nat → Nat} {cA : Nat → ClassId} {X : XT} {q : Int} (q0 : 0 ≤ q) (q1 : q ≤ 1) (hb : X.2.2 39 0 = some 7) (hH : HG vX X) {E : ET} (C : CX E (wX D ad cA) cX7_nextMan 4 RX7 (some .int) { frames := 1, cells := 0, slots := 0, locals := 22 }) (hQ : EQ E (wX D ad cA) (fun r X' => X' = X ∧ ∃ u : Int, r = some (.int (iI u)) ∧ NMT (X.1 7 4) (X.1 8) (X.1 43) (X.1 44 q.toNat) q u)) : ∀ (n : Nat) (i : Int) (l : Int), i + 1 < n → -1 ≤ i → i < (X.1 7 4) → LST (X.1 7 4) (X.1 8) (X.1 43) q i l → Wx E (wX D ad cA) 4 (PX (wX D ad cA) X) 12 [(3, .int (iI (i))), (2, .int (iI (l))), (0, .ref 39), (1, .int (iI (q)))] [] := by
  intro n
  induction n with
  | zero => intro i l hn i0 i1 hl; exfalso; omega
  | succ n ih =>
    intro i l hn i0 i1 hl
    have hm : (0 : Int) ≤ (X.1 7 4) ∧ (X.1 7 4) ≤ 6 := hH.rF (k := 7) (i := 4) (p := (0, 6)) rfl rfl
    have lb := lst_b hl
    refine x_iload_n (i := 3) C dX7_nextMan_12 rfl rfl ?_
    refine x_if_lt (tgt := 33) C dX7_nextMan_13 (by decide) ⟨by omega, by omega⟩ (fun h1 => ?_) (fun h1 => ?_)
    · refine x_aload_n (i := 0) C dX7_nextMan_33 rfl rfl ?_
      refine x_getRs (r := 44) C fkX_X7_15 (nlt rfl) rfl (HG.rR hH (k := 39) (i := 4) rfl rfl) dX7_nextMan_34 ?_
      refine x_iload_n (i := 1) C dX7_nextMan_37 rfl rfl ?_
      refine x_iald C (nlt rfl) rfl rfl (nle rfl) (by omega) (by omega) dX7_nextMan_38 ?_
      refine x_gen (fun v2 ev2 => ?_)
      have qv2 : ((-1) : Int) ≤ v2 ∧ v2 ≤ (5 : Int) := by
        rw [ev2]
        exact hH.rA (k := 44) (n := 2) (p := ((-1), 5)) (nlt rfl) rfl (by decide +kernel) (by omega)
      refine x_iconst C dX7_nextMan_39 ?_
      refine x_iadd C dX7_nextMan_40 ?_
      refine x_gen (fun v3 ev3 => ?_)
      refine x_istore_n (i := 3) (lv' := [(3, .int (iI (v3))), (2, .int (iI (l))), (0, .ref 39), (1, .int (iI (q)))]) C dX7_nextMan_41 rfl (nlt rfl) rfl ?_
      refine Wx_pick [3, 2, 0, 1] ?_
      refine Wx_lv (lv' := [(3, .int (iI (v3))), (2, .int (iI (l))), (0, .ref 39), (1, .int (iI (q)))]) rfl ?_
      exact xl_nxB39_7 q0 q1 hb hH C hQ 8 _ _ (by omega) (by omega) (by omega) (by omega) (by rw [show i = -1 by omega] at hl; exact hl) (bhd_0 (by omega))
    · refine x_aload_n (i := 0) C dX7_nextMan_16 rfl rfl ?_
      refine x_iload_n (i := 3) C dX7_nextMan_17 rfl rfl ?_
      refine x_iload_n (i := 1) C dX7_nextMan_18 rfl rfl ?_
      refine x_callV (As := [.int (iI (i)), .int (iI (q))]) C (by exact (xf_isSt39_7 (k := i) q0 q1 hb hH (by omega) (by omega))) ckX7_46 im_X7_isStanding se_X7_isStanding (nlt rfl) rfl rfl rfl rfl (nle rfl) (by exact ⟨nle rfl, nle rfl⟩) dX7_nextMan_19 ?_
      rintro _ Xv4 ⟨hxv4, v4, rfl, ev4⟩
      rw [hxv4]
      refine Wx_st (st' := [.int (iI (v4))]) rfl ?_
      refine x_if_eq (tgt := 27) C dX7_nextMan_22 (by decide) ⟨by omega, by omega⟩ (fun h5 => ?_) (fun h5 => ?_)
      · refine x_iinc (lv' := [(3, .int (iI (i + (-1)))), (2, .int (iI (l))), (0, .ref 39), (1, .int (iI (q)))]) C dX7_nextMan_27 rfl (nlt rfl) rfl ?_
        refine x_goto (tgt := 12) C dX7_nextMan_30 (by decide) ?_
        refine Wx_pick [3, 2, 0, 1] ?_
        refine Wx_lv (lv' := [(3, .int (iI (i + (-1)))), (2, .int (iI (l))), (0, .ref 39), (1, .int (iI (q)))]) rfl ?_
        exact ih _ _ (by omega) (by omega) (by omega) (lst_n (by omega) hl (ev4.elim (fun t => by exfalso; have := t.1; omega) (fun t => t.2)))
      · refine x_iload_n (i := 3) C dX7_nextMan_25 rfl rfl ?_
        refine x_istore_n (i := 2) (lv' := [(2, .int (iI (i))), (3, .int (iI (i))), (0, .ref 39), (1, .int (iI (q)))]) C dX7_nextMan_26 rfl (nlt rfl) rfl ?_
        refine x_iinc (lv' := [(3, .int (iI (i + (-1)))), (2, .int (iI (i))), (0, .ref 39), (1, .int (iI (q)))]) C dX7_nextMan_27 rfl (nlt rfl) rfl ?_
        refine x_goto (tgt := 12) C dX7_nextMan_30 (by decide) ?_
        refine Wx_pick [3, 2, 0, 1] ?_
        refine Wx_lv (lv' := [(3, .int (iI (i + (-1)))), (2, .int (iI (i))), (0, .ref 39), (1, .int (iI (q)))]) rfl ?_
        exact ih _ _ (by omega) (by omega) (by omega) (lst_y (by omega) i1 hl (ev4.elim (fun t => t.2) (fun t => by exfalso; have := t.1; omega)))
set_option maxHeartbeats 4000000 in
set_option maxRecDepth 100000 in
theorem xf_nextMan39_7 {D : va_G} {ad : Nat → Nat} {cA : Nat → ClassId} {X : XT} {q : Int} (q0 : 0 ≤ q) (q1 : q ≤ 1) (hb : X.2.2 39 0 = some 7) (hH : HG vX X) : MetX (wX D ad cA) yX7_nextMan cX7_nextMan 4 (some .int) 1 22 [.ref 39, .int (iI (q))] X (fun r X' => X' = X ∧ ∃ u : Int, r = some (.int (iI u)) ∧ NMT (X.1 7 4) (X.1 8) (X.1 43) (X.1 44 q.toNat) q u) := by
  have hm : (0 : Int) ≤ (X.1 7 4) ∧ (X.1 7 4) ≤ 6 := hH.rF (k := 7) (i := 4) (p := (0, 6)) rfl rfl
  refine MetX.mk (own := RX7) (by decide +kernel) rfl (nle rfl) (fun E C hQ => ?_)
  refine Wx_lv (lv' := [(0, .ref 39), (1, .int (iI (q)))]) rfl ?_
  refine x_iconst C dX7_nextMan_0 ?_
  refine x_istore_n (i := 2) (lv' := [(2, .int (iI ((-1)))), (0, .ref 39), (1, .int (iI (q)))]) C dX7_nextMan_1 rfl (nlt rfl) rfl ?_
  refine x_aload_n (i := 0) C dX7_nextMan_2 rfl rfl ?_
  refine x_getRs (r := 7) C fkX_X7_18 (nlt rfl) rfl hb dX7_nextMan_3 ?_
  refine x_getI C fkX_X7_43 (nlt rfl) rfl dX7_nextMan_6 ?_
  refine x_gen (fun v1 ev1 => ?_)
  have qv1 : (0 : Int) ≤ v1 ∧ v1 ≤ (6 : Int) := by
    rw [ev1]
    exact hH.rF (k := 7) (i := 4) rfl rfl
  have mv1 : v1 = X.1 7 4 := ev1
  refine x_iconst C dX7_nextMan_9 ?_
  refine x_isub C dX7_nextMan_10 ?_
  refine x_gen (fun v2 ev2 => ?_)
  refine x_istore_n (i := 3) (lv' := [(3, .int (iI (v2))), (2, .int (iI ((-1)))), (0, .ref 39), (1, .int (iI (q)))]) C dX7_nextMan_11 rfl (nlt rfl) rfl ?_
  refine Wx_pick [3, 2, 0, 1] ?_
  refine Wx_lv (lv' := [(3, .int (iI (v2))), (2, .int (iI ((-1)))), (0, .ref 39), (1, .int (iI (q)))]) rfl ?_
  exact xl_nxA39_7 q0 q1 hb hH C hQ 8 _ (-1) (by omega) (by omega) (by omega) (lst_0 (by omega))
set_option maxRecDepth 10000 in
theorem t_X_94 {D : va_G} {ad : Nat → Nat} {cA : Nat → ClassId} : CTR mtX vX gX (wX D ad cA) k_X_94 := by
  intro g X hpre
  obtain ⟨h00, hei, hel, hdl, hH, hE⟩ := hpre
  have h0 : (0 : Int) ≤ g.1 0 ∧ g.1 0 ≤ (0 : Int) := hei 0 _ rfl
  have h1 : (0 : Int) ≤ g.1 1 ∧ g.1 1 ≤ (1 : Int) := hei 1 _ rfl
  have h2 : ((-2147483648) : Int) ≤ g.1 2 ∧ g.1 2 ≤ (2147483647 : Int) := hei 2 _ rfl
  have h3 : ((-2147483648) : Int) ≤ g.1 3 ∧ g.1 3 ≤ (2147483647 : Int) := hei 3 _ rfl
  have h4 : ((-2147483648) : Int) ≤ g.1 4 ∧ g.1 4 ≤ (2147483647 : Int) := hei 4 _ rfl
  have h5 : ((-2147483648) : Int) ≤ g.1 5 ∧ g.1 5 ≤ (2147483647 : Int) := hei 5 _ rfl
  have h6 : ((-2147483648) : Int) ≤ g.1 6 ∧ g.1 6 ≤ (2147483647 : Int) := hei 6 _ rfl
  have h7 : ((-2147483648) : Int) ≤ g.1 7 ∧ g.1 7 ≤ (2147483647 : Int) := hei 7 _ rfl
  have hb : X.2.2 39 0 = some 7 := hdl ((39, 0), (2, 7, 0)) (.head _)
  have f0 : X.1 8 0 = g.1 2 + 0 := (hdl ((8, 0), (0, 2, 0)) (.tail _ (.head _)))
  have f1 : X.1 8 1 = g.1 3 + 0 := (hdl ((8, 1), (0, 3, 0)) (.tail _ (.tail _ (.head _))))
  have f2 : X.1 8 2 = g.1 4 + 0 := (hdl ((8, 2), (0, 4, 0)) (.tail _ (.tail _ (.tail _ (.head _)))))
  have f3 : X.1 8 3 = g.1 5 + 0 := (hdl ((8, 3), (0, 5, 0)) (.tail _ (.tail _ (.tail _ (.tail _ (.head _))))))
  have f4 : X.1 8 4 = g.1 6 + 0 := (hdl ((8, 4), (0, 6, 0)) (.tail _ (.tail _ (.tail _ (.tail _ (.tail _ (.head _)))))))
  have f5 : X.1 8 5 = g.1 7 + 0 := (hdl ((8, 5), (0, 7, 0)) (.tail _ (.tail _ (.tail _ (.tail _ (.tail _ (.tail _ (.head _))))))))
  have hm : (0 : Int) ≤ (X.1 7 4) ∧ (X.1 7 4) ≤ 6 := hH.rF (k := 7) (i := 4) (p := (0, 6)) rfl rfl
  refine MetX.imp (fun r X1 hp => ?_) (xf_nextMan39_7 (X := X) (q := g.1 1 + 0) (by omega) (by omega) hb hH)
  obtain ⟨rfl, u, rfl, hu⟩ := hp
  rcases nmt_c hu with rfl | ⟨u0, u1, u2⟩
  · exact (altM_mk 0 [(-1)] rfl (ei_cons ⟨by show (0 : Int) ≤ g.1 0; omega, by show g.1 0 ≤ (0 : Int); omega⟩ (ei_cons ⟨by show (0 : Int) ≤ g.1 1; omega, by show g.1 1 ≤ (1 : Int); omega⟩ (ei_cons ⟨by show ((-2147483648) : Int) ≤ g.1 2; omega, by show g.1 2 ≤ (2147483647 : Int); omega⟩ (ei_cons ⟨by show ((-2147483648) : Int) ≤ g.1 3; omega, by show g.1 3 ≤ (2147483647 : Int); omega⟩ (ei_cons ⟨by show ((-2147483648) : Int) ≤ g.1 4; omega, by show g.1 4 ≤ (2147483647 : Int); omega⟩ (ei_cons ⟨by show ((-2147483648) : Int) ≤ g.1 5; omega, by show g.1 5 ≤ (2147483647 : Int); omega⟩ (ei_cons ⟨by show ((-2147483648) : Int) ≤ g.1 6; omega, by show g.1 6 ≤ (2147483647 : Int); omega⟩ (ei_cons ⟨by show ((-2147483648) : Int) ≤ g.1 7; omega, by show g.1 7 ≤ (2147483647 : Int); omega⟩ (ei_cons ⟨by show ((-1) : Int) ≤ (-1); omega, by show (-1) ≤ ((-1) : Int); omega⟩ ei_nil))))))))) el_nil (by rfl) dl_nil gd_nil hH hE FR.rf)
  rcases (show u = 0 ∨ u = 1 ∨ u = 2 ∨ u = 3 ∨ u = 4 ∨ u = 5 by omega) with rfl | rfl | rfl | rfl | rfl | rfl
  · have z : X1.1 8 0 = g.1 1 + 0 := u2
    exact (altM_mk 1 [0] rfl (ei_cons ⟨by show (0 : Int) ≤ g.1 0; omega, by show g.1 0 ≤ (0 : Int); omega⟩ (ei_cons ⟨by show (0 : Int) ≤ g.1 1; omega, by show g.1 1 ≤ (1 : Int); omega⟩ (ei_cons ⟨by show (0 : Int) ≤ g.1 2; omega, by show g.1 2 ≤ (1 : Int); omega⟩ (ei_cons ⟨by show ((-2147483648) : Int) ≤ g.1 3; omega, by show g.1 3 ≤ (2147483647 : Int); omega⟩ (ei_cons ⟨by show ((-2147483648) : Int) ≤ g.1 4; omega, by show g.1 4 ≤ (2147483647 : Int); omega⟩ (ei_cons ⟨by show ((-2147483648) : Int) ≤ g.1 5; omega, by show g.1 5 ≤ (2147483647 : Int); omega⟩ (ei_cons ⟨by show ((-2147483648) : Int) ≤ g.1 6; omega, by show g.1 6 ≤ (2147483647 : Int); omega⟩ (ei_cons ⟨by show ((-2147483648) : Int) ≤ g.1 7; omega, by show g.1 7 ≤ (2147483647 : Int); omega⟩ (ei_cons ⟨by show (0 : Int) ≤ 0; omega, by show 0 ≤ (0 : Int); omega⟩ ei_nil))))))))) el_nil (by rfl) dl_nil gd_nil hH hE FR.rf)
  · have z : X1.1 8 1 = g.1 1 + 0 := u2
    exact (altM_mk 2 [1] rfl (ei_cons ⟨by show (0 : Int) ≤ g.1 0; omega, by show g.1 0 ≤ (0 : Int); omega⟩ (ei_cons ⟨by show (0 : Int) ≤ g.1 1; omega, by show g.1 1 ≤ (1 : Int); omega⟩ (ei_cons ⟨by show ((-2147483648) : Int) ≤ g.1 2; omega, by show g.1 2 ≤ (2147483647 : Int); omega⟩ (ei_cons ⟨by show (0 : Int) ≤ g.1 3; omega, by show g.1 3 ≤ (1 : Int); omega⟩ (ei_cons ⟨by show ((-2147483648) : Int) ≤ g.1 4; omega, by show g.1 4 ≤ (2147483647 : Int); omega⟩ (ei_cons ⟨by show ((-2147483648) : Int) ≤ g.1 5; omega, by show g.1 5 ≤ (2147483647 : Int); omega⟩ (ei_cons ⟨by show ((-2147483648) : Int) ≤ g.1 6; omega, by show g.1 6 ≤ (2147483647 : Int); omega⟩ (ei_cons ⟨by show ((-2147483648) : Int) ≤ g.1 7; omega, by show g.1 7 ≤ (2147483647 : Int); omega⟩ (ei_cons ⟨by show (1 : Int) ≤ 1; omega, by show 1 ≤ (1 : Int); omega⟩ ei_nil))))))))) el_nil (by rfl) dl_nil gd_nil hH hE FR.rf)
  · have z : X1.1 8 2 = g.1 1 + 0 := u2
    exact (altM_mk 3 [2] rfl (ei_cons ⟨by show (0 : Int) ≤ g.1 0; omega, by show g.1 0 ≤ (0 : Int); omega⟩ (ei_cons ⟨by show (0 : Int) ≤ g.1 1; omega, by show g.1 1 ≤ (1 : Int); omega⟩ (ei_cons ⟨by show ((-2147483648) : Int) ≤ g.1 2; omega, by show g.1 2 ≤ (2147483647 : Int); omega⟩ (ei_cons ⟨by show ((-2147483648) : Int) ≤ g.1 3; omega, by show g.1 3 ≤ (2147483647 : Int); omega⟩ (ei_cons ⟨by show (0 : Int) ≤ g.1 4; omega, by show g.1 4 ≤ (1 : Int); omega⟩ (ei_cons ⟨by show ((-2147483648) : Int) ≤ g.1 5; omega, by show g.1 5 ≤ (2147483647 : Int); omega⟩ (ei_cons ⟨by show ((-2147483648) : Int) ≤ g.1 6; omega, by show g.1 6 ≤ (2147483647 : Int); omega⟩ (ei_cons ⟨by show ((-2147483648) : Int) ≤ g.1 7; omega, by show g.1 7 ≤ (2147483647 : Int); omega⟩ (ei_cons ⟨by show (2 : Int) ≤ 2; omega, by show 2 ≤ (2 : Int); omega⟩ ei_nil))))))))) el_nil (by rfl) dl_nil gd_nil hH hE FR.rf)
  · have z : X1.1 8 3 = g.1 1 + 0 := u2
    exact (altM_mk 4 [3] rfl (ei_cons ⟨by show (0 : Int) ≤ g.1 0; omega, by show g.1 0 ≤ (0 : Int); omega⟩ (ei_cons ⟨by show (0 : Int) ≤ g.1 1; omega, by show g.1 1 ≤ (1 : Int); omega⟩ (ei_cons ⟨by show ((-2147483648) : Int) ≤ g.1 2; omega, by show g.1 2 ≤ (2147483647 : Int); omega⟩ (ei_cons ⟨by show ((-2147483648) : Int) ≤ g.1 3; omega, by show g.1 3 ≤ (2147483647 : Int); omega⟩ (ei_cons ⟨by show ((-2147483648) : Int) ≤ g.1 4; omega, by show g.1 4 ≤ (2147483647 : Int); omega⟩ (ei_cons ⟨by show (0 : Int) ≤ g.1 5; omega, by show g.1 5 ≤ (1 : Int); omega⟩ (ei_cons ⟨by show ((-2147483648) : Int) ≤ g.1 6; omega, by show g.1 6 ≤ (2147483647 : Int); omega⟩ (ei_cons ⟨by show ((-2147483648) : Int) ≤ g.1 7; omega, by show g.1 7 ≤ (2147483647 : Int); omega⟩ (ei_cons ⟨by show (3 : Int) ≤ 3; omega, by show 3 ≤ (3 : Int); omega⟩ ei_nil))))))))) el_nil (by rfl) dl_nil gd_nil hH hE FR.rf)
  · have z : X1.1 8 4 = g.1 1 + 0 := u2
    exact (altM_mk 5 [4] rfl (ei_cons ⟨by show (0 : Int) ≤ g.1 0; omega, by show g.1 0 ≤ (0 : Int); omega⟩ (ei_cons ⟨by show (0 : Int) ≤ g.1 1; omega, by show g.1 1 ≤ (1 : Int); omega⟩ (ei_cons ⟨by show ((-2147483648) : Int) ≤ g.1 2; omega, by show g.1 2 ≤ (2147483647 : Int); omega⟩ (ei_cons ⟨by show ((-2147483648) : Int) ≤ g.1 3; omega, by show g.1 3 ≤ (2147483647 : Int); omega⟩ (ei_cons ⟨by show ((-2147483648) : Int) ≤ g.1 4; omega, by show g.1 4 ≤ (2147483647 : Int); omega⟩ (ei_cons ⟨by show ((-2147483648) : Int) ≤ g.1 5; omega, by show g.1 5 ≤ (2147483647 : Int); omega⟩ (ei_cons ⟨by show (0 : Int) ≤ g.1 6; omega, by show g.1 6 ≤ (1 : Int); omega⟩ (ei_cons ⟨by show ((-2147483648) : Int) ≤ g.1 7; omega, by show g.1 7 ≤ (2147483647 : Int); omega⟩ (ei_cons ⟨by show (4 : Int) ≤ 4; omega, by show 4 ≤ (4 : Int); omega⟩ ei_nil))))))))) el_nil (by rfl) dl_nil gd_nil hH hE FR.rf)
  · have z : X1.1 8 5 = g.1 1 + 0 := u2
    exact (altM_mk 6 [5] rfl (ei_cons ⟨by show (0 : Int) ≤ g.1 0; omega, by show g.1 0 ≤ (0 : Int); omega⟩ (ei_cons ⟨by show (0 : Int) ≤ g.1 1; omega, by show g.1 1 ≤ (1 : Int); omega⟩ (ei_cons ⟨by show ((-2147483648) : Int) ≤ g.1 2; omega, by show g.1 2 ≤ (2147483647 : Int); omega⟩ (ei_cons ⟨by show ((-2147483648) : Int) ≤ g.1 3; omega, by show g.1 3 ≤ (2147483647 : Int); omega⟩ (ei_cons ⟨by show ((-2147483648) : Int) ≤ g.1 4; omega, by show g.1 4 ≤ (2147483647 : Int); omega⟩ (ei_cons ⟨by show ((-2147483648) : Int) ≤ g.1 5; omega, by show g.1 5 ≤ (2147483647 : Int); omega⟩ (ei_cons ⟨by show ((-2147483648) : Int) ≤ g.1 6; omega, by show g.1 6 ≤ (2147483647 : Int); omega⟩ (ei_cons ⟨by show (0 : Int) ≤ g.1 7; omega, by show g.1 7 ≤ (1 : Int); omega⟩ (ei_cons ⟨by show (5 : Int) ≤ 5; omega, by show 5 ≤ (5 : Int); omega⟩ ei_nil))))))))) el_nil (by rfl) dl_nil gd_nil hH hE FR.rf)
set_option maxHeartbeats 4000000 in
set_option maxRecDepth 100000 in
theorem xf_isSt39_10 {D : va_G} {ad : Nat → Nat} {cA : Nat → ClassId} {X : XT} {q k : Int} (q0 : 0 ≤ q) (q1 : q ≤ 1) (hb : X.2.2 39 0 = some 10) (hH : HG vX X) (k0 : 0 ≤ k) (k5 : k ≤ 5) : MetX (wX D ad cA) yX7_isStanding cX7_isStanding 3 (some .boolean) 0 0 [.ref 39, .int (iI (k)), .int (iI (q))] X (fun r X' => X' = X ∧ ∃ u : Int, r = some (.int (iI u)) ∧ ((u = 1 ∧ SNT (X.1 11) (X.1 43) q k.toNat) ∨ (u = 0 ∧ ¬ SNT (X.1 11) (X.1 43) q k.toNat))) := by
  refine MetX.mk (own := RX7) (by decide +kernel) rfl (nle rfl) (fun E C hQ => ?_)
  refine Wx_lv (lv' := [(0, .ref 39), (1, .int (iI (k))), (2, .int (iI (q)))]) rfl ?_
  refine x_aload_n (i := 0) C dX7_isStanding_0 rfl rfl ?_
  refine x_getRs (r := 10) C fkX_X7_18 (nlt rfl) rfl hb dX7_isStanding_1 ?_
  refine x_getRs (r := 11) C fkX_X7_40 (nlt rfl) rfl (HG.rR hH (k := 10) (i := 5) rfl rfl) dX7_isStanding_4 ?_
  refine x_iload_n (i := 1) C dX7_isStanding_7 rfl rfl ?_
  refine x_iald C (nlt rfl) rfl rfl (nle rfl) (by omega) (by omega) dX7_isStanding_8 ?_
  refine x_gen (fun v1 ev1 => ?_)
  have qv1 : ((-2147483648) : Int) ≤ v1 ∧ v1 ≤ (2147483647 : Int) := by
    rw [ev1]
    exact hH.rA (k := 11) (n := 6) (p := ((-2147483648), 2147483647)) (nlt rfl) rfl (by decide +kernel) (by omega)
  refine x_iload_n (i := 2) C dX7_isStanding_9 rfl rfl ?_
  refine x_icmp_ne (tgt := 27) C dX7_isStanding_10 (by decide) ⟨by omega, by omega⟩ ⟨by omega, by omega⟩ (fun h2 => ?_) (fun h2 => ?_)
  · refine x_iconst C dX7_isStanding_27 ?_
    exact x_zret C hQ (by omega) dX7_isStanding_28 (⟨rfl, _, rfl, .inr ⟨rfl, fun t => by have t1 := t.1; have t2 := t.2; omega⟩⟩)
  · refine x_aload_n (i := 0) C dX7_isStanding_13 rfl rfl ?_
    refine x_getRs (r := 43) C fkX_X7_9 (nlt rfl) rfl (HG.rR hH (k := 39) (i := 3) rfl rfl) dX7_isStanding_14 ?_
    refine x_iload_n (i := 1) C dX7_isStanding_17 rfl rfl ?_
    refine x_iald C (nlt rfl) rfl rfl (nle rfl) (by omega) (by omega) dX7_isStanding_18 ?_
    refine x_gen (fun v3 ev3 => ?_)
    have qv3 : ((-2147483648) : Int) ≤ v3 ∧ v3 ≤ (2147483647 : Int) := by
      rw [ev3]
      exact hH.rA (k := 43) (n := 6) (p := ((-2147483648), 2147483647)) (nlt rfl) rfl (by decide +kernel) (by omega)
    refine x_iconst C dX7_isStanding_19 ?_
    refine x_icmp_eq (tgt := 27) C dX7_isStanding_20 (by decide) ⟨by omega, by omega⟩ ⟨by omega, by omega⟩ (fun h4 => ?_) (fun h4 => ?_)
    · refine x_iconst C dX7_isStanding_27 ?_
      exact x_zret C hQ (by omega) dX7_isStanding_28 (⟨rfl, _, rfl, .inr ⟨rfl, fun t => by have t1 := t.1; have t2 := t.2; omega⟩⟩)
    · refine x_iconst C dX7_isStanding_23 ?_
      refine x_goto (tgt := 28) C dX7_isStanding_24 (by decide) ?_
      exact x_zret C hQ (by omega) dX7_isStanding_28 (⟨rfl, _, rfl, .inl ⟨rfl, by rw [← ev1]; omega, by rw [← ev3]; omega⟩⟩)
set_option maxHeartbeats 4000000 in
set_option maxRecDepth 100000 in
theorem xl_nxB39_10 {D : va_G} {ad : Nat → Nat} {cA : Nat → ClassId} {X : XT} {q : Int} (q0 : 0 ≤ q) (q1 : q ≤ 1) (hb : X.2.2 39 0 = some 10) (hH : HG vX X) {E : ET} (C : CX E (wX D ad cA) cX7_nextMan 4 RX7 (some .int) { frames := 1, cells := 0, slots := 0, locals := 22 }) (hQ : EQ E (wX D ad cA) (fun r X' => X' = X ∧ ∃ u : Int, r = some (.int (iI u)) ∧ NMT (X.1 10 4) (X.1 11) (X.1 43) (X.1 44 q.toNat) q u)) : ∀ (n : Nat) (i : Int) (l : Int), 7 - i < n → 0 ≤ i → i ≤ 6 → X.1 44 q.toNat < i → LST (X.1 10 4) (X.1 11) (X.1 43) q (-1) l → BHD (X.1 11) (X.1 43) q (X.1 44 q.toNat) i → Wx E (wX D ad cA) 4 (PX (wX D ad cA) X) 42 [(3, .int (iI (i))), (2, .int (iI (l))), (0, .ref 39), (1, .int (iI (q)))] [] := by
  intro n
  induction n with
  | zero => intro i l hn i0 i1 iw hl hw; exfalso; omega
  | succ n ih =>
    intro i l hn i0 i1 iw hl hw
    have hm : (0 : Int) ≤ (X.1 10 4) ∧ (X.1 10 4) ≤ 6 := hH.rF (k := 10) (i := 4) (p := (0, 6)) rfl rfl
    have lb := lst_b hl
    refine x_iload_n (i := 3) C dX7_nextMan_42 rfl rfl ?_
    refine x_aload_n (i := 0) C dX7_nextMan_43 rfl rfl ?_
    refine x_getRs (r := 10) C fkX_X7_18 (nlt rfl) rfl hb dX7_nextMan_44 ?_
    refine x_getI C fkX_X7_43 (nlt rfl) rfl dX7_nextMan_47 ?_
    refine x_gen (fun v1 ev1 => ?_)
    have qv1 : (0 : Int) ≤ v1 ∧ v1 ≤ (6 : Int) := by
      rw [ev1]
      exact hH.rF (k := 10) (i := 4) rfl rfl
    have mv1 : v1 = X.1 10 4 := ev1
    refine x_icmp_ge (tgt := 70) C dX7_nextMan_50 (by decide) ⟨by omega, by omega⟩ ⟨by omega, by omega⟩ (fun h2 => ?_) (fun h2 => ?_)
    · refine x_iload_n (i := 2) C dX7_nextMan_70 rfl rfl ?_
      exact x_iret C hQ dX7_nextMan_71 (⟨rfl, _, rfl, nmt_l hl hw (by omega)⟩)
    · refine x_aload_n (i := 0) C dX7_nextMan_53 rfl rfl ?_
      refine x_iload_n (i := 3) C dX7_nextMan_54 rfl rfl ?_
      refine x_iload_n (i := 1) C dX7_nextMan_55 rfl rfl ?_
      refine x_callV (As := [.int (iI (i)), .int (iI (q))]) C (by exact (xf_isSt39_10 (k := i) q0 q1 hb hH (by omega) (by omega))) ckX7_46 im_X7_isStanding se_X7_isStanding (nlt rfl) rfl rfl rfl rfl (nle rfl) (by exact ⟨nle rfl, nle rfl⟩) dX7_nextMan_56 ?_
      rintro _ Xv3 ⟨hxv3, v3, rfl, ev3⟩
      rw [hxv3]
      refine Wx_st (st' := [.int (iI (v3))]) rfl ?_
      refine x_if_eq (tgt := 64) C dX7_nextMan_59 (by decide) ⟨by omega, by omega⟩ (fun h4 => ?_) (fun h4 => ?_)
      · refine x_iinc (lv' := [(3, .int (iI (i + 1))), (2, .int (iI (l))), (0, .ref 39), (1, .int (iI (q)))]) C dX7_nextMan_64 rfl (nlt rfl) rfl ?_
        refine x_goto (tgt := 42) C dX7_nextMan_67 (by decide) ?_
        refine Wx_pick [3, 2, 0, 1] ?_
        refine Wx_lv (lv' := [(3, .int (iI (i + 1))), (2, .int (iI (l))), (0, .ref 39), (1, .int (iI (q)))]) rfl ?_
        exact ih _ _ (by omega) (by omega) (by omega) (by omega) hl (bhd_n (by omega) hw (ev3.elim (fun t => by exfalso; have := t.1; omega) (fun t => t.2)))
      · refine x_iload_n (i := 3) C dX7_nextMan_62 rfl rfl ?_
        exact x_iret C hQ dX7_nextMan_63 (⟨rfl, _, rfl, nmt_i (by omega) (by omega) (by omega) hw (ev3.elim (fun t => t.2) (fun t => by exfalso; have := t.1; omega))⟩)
set_option maxHeartbeats 4000000 in
set_option maxRecDepth 100000 in
theorem xl_nxA39_10 {D : va_G} {ad : Nat → Nat} {cA : Nat → ClassId} {X : XT} {q : Int} (q0 : 0 ≤ q) (q1 : q ≤ 1) (hb : X.2.2 39 0 = some 10) (hH : HG vX X) {E : ET} (C : CX E (wX D ad cA) cX7_nextMan 4 RX7 (some .int) { frames := 1, cells := 0, slots := 0, locals := 22 }) (hQ : EQ E (wX D ad cA) (fun r X' => X' = X ∧ ∃ u : Int, r = some (.int (iI u)) ∧ NMT (X.1 10 4) (X.1 11) (X.1 43) (X.1 44 q.toNat) q u)) : ∀ (n : Nat) (i : Int) (l : Int), i + 1 < n → -1 ≤ i → i < (X.1 10 4) → LST (X.1 10 4) (X.1 11) (X.1 43) q i l → Wx E (wX D ad cA) 4 (PX (wX D ad cA) X) 12 [(3, .int (iI (i))), (2, .int (iI (l))), (0, .ref 39), (1, .int (iI (q)))] [] := by
  intro n
  induction n with
  | zero => intro i l hn i0 i1 hl; exfalso; omega
  | succ n ih =>
    intro i l hn i0 i1 hl
    have hm : (0 : Int) ≤ (X.1 10 4) ∧ (X.1 10 4) ≤ 6 := hH.rF (k := 10) (i := 4) (p := (0, 6)) rfl rfl
    have lb := lst_b hl
    refine x_iload_n (i := 3) C dX7_nextMan_12 rfl rfl ?_
    refine x_if_lt (tgt := 33) C dX7_nextMan_13 (by decide) ⟨by omega, by omega⟩ (fun h1 => ?_) (fun h1 => ?_)
    · refine x_aload_n (i := 0) C dX7_nextMan_33 rfl rfl ?_
      refine x_getRs (r := 44) C fkX_X7_15 (nlt rfl) rfl (HG.rR hH (k := 39) (i := 4) rfl rfl) dX7_nextMan_34 ?_
      refine x_iload_n (i := 1) C dX7_nextMan_37 rfl rfl ?_
      refine x_iald C (nlt rfl) rfl rfl (nle rfl) (by omega) (by omega) dX7_nextMan_38 ?_
      refine x_gen (fun v2 ev2 => ?_)
      have qv2 : ((-1) : Int) ≤ v2 ∧ v2 ≤ (5 : Int) := by
        rw [ev2]
        exact hH.rA (k := 44) (n := 2) (p := ((-1), 5)) (nlt rfl) rfl (by decide +kernel) (by omega)
      refine x_iconst C dX7_nextMan_39 ?_
      refine x_iadd C dX7_nextMan_40 ?_
      refine x_gen (fun v3 ev3 => ?_)
      refine x_istore_n (i := 3) (lv' := [(3, .int (iI (v3))), (2, .int (iI (l))), (0, .ref 39), (1, .int (iI (q)))]) C dX7_nextMan_41 rfl (nlt rfl) rfl ?_
      refine Wx_pick [3, 2, 0, 1] ?_
      refine Wx_lv (lv' := [(3, .int (iI (v3))), (2, .int (iI (l))), (0, .ref 39), (1, .int (iI (q)))]) rfl ?_
      exact xl_nxB39_10 q0 q1 hb hH C hQ 8 _ _ (by omega) (by omega) (by omega) (by omega) (by rw [show i = -1 by omega] at hl; exact hl) (bhd_0 (by omega))
    · refine x_aload_n (i := 0) C dX7_nextMan_16 rfl rfl ?_
      refine x_iload_n (i := 3) C dX7_nextMan_17 rfl rfl ?_
      refine x_iload_n (i := 1) C dX7_nextMan_18 rfl rfl ?_
      refine x_callV (As := [.int (iI (i)), .int (iI (q))]) C (by exact (xf_isSt39_10 (k := i) q0 q1 hb hH (by omega) (by omega))) ckX7_46 im_X7_isStanding se_X7_isStanding (nlt rfl) rfl rfl rfl rfl (nle rfl) (by exact ⟨nle rfl, nle rfl⟩) dX7_nextMan_19 ?_
      rintro _ Xv4 ⟨hxv4, v4, rfl, ev4⟩
      rw [hxv4]
      refine Wx_st (st' := [.int (iI (v4))]) rfl ?_
      refine x_if_eq (tgt := 27) C dX7_nextMan_22 (by decide) ⟨by omega, by omega⟩ (fun h5 => ?_) (fun h5 => ?_)
      · refine x_iinc (lv' := [(3, .int (iI (i + (-1)))), (2, .int (iI (l))), (0, .ref 39), (1, .int (iI (q)))]) C dX7_nextMan_27 rfl (nlt rfl) rfl ?_
        refine x_goto (tgt := 12) C dX7_nextMan_30 (by decide) ?_
        refine Wx_pick [3, 2, 0, 1] ?_
        refine Wx_lv (lv' := [(3, .int (iI (i + (-1)))), (2, .int (iI (l))), (0, .ref 39), (1, .int (iI (q)))]) rfl ?_
        exact ih _ _ (by omega) (by omega) (by omega) (lst_n (by omega) hl (ev4.elim (fun t => by exfalso; have := t.1; omega) (fun t => t.2)))
      · refine x_iload_n (i := 3) C dX7_nextMan_25 rfl rfl ?_
        refine x_istore_n (i := 2) (lv' := [(2, .int (iI (i))), (3, .int (iI (i))), (0, .ref 39), (1, .int (iI (q)))]) C dX7_nextMan_26 rfl (nlt rfl) rfl ?_
        refine x_iinc (lv' := [(3, .int (iI (i + (-1)))), (2, .int (iI (i))), (0, .ref 39), (1, .int (iI (q)))]) C dX7_nextMan_27 rfl (nlt rfl) rfl ?_
        refine x_goto (tgt := 12) C dX7_nextMan_30 (by decide) ?_
        refine Wx_pick [3, 2, 0, 1] ?_
        refine Wx_lv (lv' := [(3, .int (iI (i + (-1)))), (2, .int (iI (i))), (0, .ref 39), (1, .int (iI (q)))]) rfl ?_
        exact ih _ _ (by omega) (by omega) (by omega) (lst_y (by omega) i1 hl (ev4.elim (fun t => t.2) (fun t => by exfalso; have := t.1; omega)))
set_option maxHeartbeats 4000000 in
set_option maxRecDepth 100000 in
theorem xf_nextMan39_10 {D : va_G} {ad : Nat → Nat} {cA : Nat → ClassId} {X : XT} {q : Int} (q0 : 0 ≤ q) (q1 : q ≤ 1) (hb : X.2.2 39 0 = some 10) (hH : HG vX X) : MetX (wX D ad cA) yX7_nextMan cX7_nextMan 4 (some .int) 1 22 [.ref 39, .int (iI (q))] X (fun r X' => X' = X ∧ ∃ u : Int, r = some (.int (iI u)) ∧ NMT (X.1 10 4) (X.1 11) (X.1 43) (X.1 44 q.toNat) q u) := by
  have hm : (0 : Int) ≤ (X.1 10 4) ∧ (X.1 10 4) ≤ 6 := hH.rF (k := 10) (i := 4) (p := (0, 6)) rfl rfl
  refine MetX.mk (own := RX7) (by decide +kernel) rfl (nle rfl) (fun E C hQ => ?_)
  refine Wx_lv (lv' := [(0, .ref 39), (1, .int (iI (q)))]) rfl ?_
  refine x_iconst C dX7_nextMan_0 ?_
  refine x_istore_n (i := 2) (lv' := [(2, .int (iI ((-1)))), (0, .ref 39), (1, .int (iI (q)))]) C dX7_nextMan_1 rfl (nlt rfl) rfl ?_
  refine x_aload_n (i := 0) C dX7_nextMan_2 rfl rfl ?_
  refine x_getRs (r := 10) C fkX_X7_18 (nlt rfl) rfl hb dX7_nextMan_3 ?_
  refine x_getI C fkX_X7_43 (nlt rfl) rfl dX7_nextMan_6 ?_
  refine x_gen (fun v1 ev1 => ?_)
  have qv1 : (0 : Int) ≤ v1 ∧ v1 ≤ (6 : Int) := by
    rw [ev1]
    exact hH.rF (k := 10) (i := 4) rfl rfl
  have mv1 : v1 = X.1 10 4 := ev1
  refine x_iconst C dX7_nextMan_9 ?_
  refine x_isub C dX7_nextMan_10 ?_
  refine x_gen (fun v2 ev2 => ?_)
  refine x_istore_n (i := 3) (lv' := [(3, .int (iI (v2))), (2, .int (iI ((-1)))), (0, .ref 39), (1, .int (iI (q)))]) C dX7_nextMan_11 rfl (nlt rfl) rfl ?_
  refine Wx_pick [3, 2, 0, 1] ?_
  refine Wx_lv (lv' := [(3, .int (iI (v2))), (2, .int (iI ((-1)))), (0, .ref 39), (1, .int (iI (q)))]) rfl ?_
  exact xl_nxA39_10 q0 q1 hb hH C hQ 8 _ (-1) (by omega) (by omega) (by omega) (lst_0 (by omega))
set_option maxRecDepth 10000 in
theorem t_X_109 {D : va_G} {ad : Nat → Nat} {cA : Nat → ClassId} : CTR mtX vX gX (wX D ad cA) k_X_109 := by
  intro g X hpre
  obtain ⟨h00, hei, hel, hdl, hH, hE⟩ := hpre
  have h0 : (0 : Int) ≤ g.1 0 ∧ g.1 0 ≤ (0 : Int) := hei 0 _ rfl
  have h1 : (0 : Int) ≤ g.1 1 ∧ g.1 1 ≤ (1 : Int) := hei 1 _ rfl
  have h2 : ((-2147483648) : Int) ≤ g.1 2 ∧ g.1 2 ≤ (2147483647 : Int) := hei 2 _ rfl
  have h3 : ((-2147483648) : Int) ≤ g.1 3 ∧ g.1 3 ≤ (2147483647 : Int) := hei 3 _ rfl
  have h4 : ((-2147483648) : Int) ≤ g.1 4 ∧ g.1 4 ≤ (2147483647 : Int) := hei 4 _ rfl
  have h5 : ((-2147483648) : Int) ≤ g.1 5 ∧ g.1 5 ≤ (2147483647 : Int) := hei 5 _ rfl
  have h6 : ((-2147483648) : Int) ≤ g.1 6 ∧ g.1 6 ≤ (2147483647 : Int) := hei 6 _ rfl
  have h7 : ((-2147483648) : Int) ≤ g.1 7 ∧ g.1 7 ≤ (2147483647 : Int) := hei 7 _ rfl
  have hb : X.2.2 39 0 = some 10 := hdl ((39, 0), (2, 10, 0)) (.head _)
  have f0 : X.1 11 0 = g.1 2 + 0 := (hdl ((11, 0), (0, 2, 0)) (.tail _ (.head _)))
  have f1 : X.1 11 1 = g.1 3 + 0 := (hdl ((11, 1), (0, 3, 0)) (.tail _ (.tail _ (.head _))))
  have f2 : X.1 11 2 = g.1 4 + 0 := (hdl ((11, 2), (0, 4, 0)) (.tail _ (.tail _ (.tail _ (.head _)))))
  have f3 : X.1 11 3 = g.1 5 + 0 := (hdl ((11, 3), (0, 5, 0)) (.tail _ (.tail _ (.tail _ (.tail _ (.head _))))))
  have f4 : X.1 11 4 = g.1 6 + 0 := (hdl ((11, 4), (0, 6, 0)) (.tail _ (.tail _ (.tail _ (.tail _ (.tail _ (.head _)))))))
  have f5 : X.1 11 5 = g.1 7 + 0 := (hdl ((11, 5), (0, 7, 0)) (.tail _ (.tail _ (.tail _ (.tail _ (.tail _ (.tail _ (.head _))))))))
  have hm : (0 : Int) ≤ (X.1 10 4) ∧ (X.1 10 4) ≤ 6 := hH.rF (k := 10) (i := 4) (p := (0, 6)) rfl rfl
  refine MetX.imp (fun r X1 hp => ?_) (xf_nextMan39_10 (X := X) (q := g.1 1 + 0) (by omega) (by omega) hb hH)
  obtain ⟨rfl, u, rfl, hu⟩ := hp
  rcases nmt_c hu with rfl | ⟨u0, u1, u2⟩
  · exact (altM_mk 0 [(-1)] rfl (ei_cons ⟨by show (0 : Int) ≤ g.1 0; omega, by show g.1 0 ≤ (0 : Int); omega⟩ (ei_cons ⟨by show (0 : Int) ≤ g.1 1; omega, by show g.1 1 ≤ (1 : Int); omega⟩ (ei_cons ⟨by show ((-2147483648) : Int) ≤ g.1 2; omega, by show g.1 2 ≤ (2147483647 : Int); omega⟩ (ei_cons ⟨by show ((-2147483648) : Int) ≤ g.1 3; omega, by show g.1 3 ≤ (2147483647 : Int); omega⟩ (ei_cons ⟨by show ((-2147483648) : Int) ≤ g.1 4; omega, by show g.1 4 ≤ (2147483647 : Int); omega⟩ (ei_cons ⟨by show ((-2147483648) : Int) ≤ g.1 5; omega, by show g.1 5 ≤ (2147483647 : Int); omega⟩ (ei_cons ⟨by show ((-2147483648) : Int) ≤ g.1 6; omega, by show g.1 6 ≤ (2147483647 : Int); omega⟩ (ei_cons ⟨by show ((-2147483648) : Int) ≤ g.1 7; omega, by show g.1 7 ≤ (2147483647 : Int); omega⟩ (ei_cons ⟨by show ((-1) : Int) ≤ (-1); omega, by show (-1) ≤ ((-1) : Int); omega⟩ ei_nil))))))))) el_nil (by rfl) dl_nil gd_nil hH hE FR.rf)
  rcases (show u = 0 ∨ u = 1 ∨ u = 2 ∨ u = 3 ∨ u = 4 ∨ u = 5 by omega) with rfl | rfl | rfl | rfl | rfl | rfl
  · have z : X1.1 11 0 = g.1 1 + 0 := u2
    exact (altM_mk 1 [0] rfl (ei_cons ⟨by show (0 : Int) ≤ g.1 0; omega, by show g.1 0 ≤ (0 : Int); omega⟩ (ei_cons ⟨by show (0 : Int) ≤ g.1 1; omega, by show g.1 1 ≤ (1 : Int); omega⟩ (ei_cons ⟨by show (0 : Int) ≤ g.1 2; omega, by show g.1 2 ≤ (1 : Int); omega⟩ (ei_cons ⟨by show ((-2147483648) : Int) ≤ g.1 3; omega, by show g.1 3 ≤ (2147483647 : Int); omega⟩ (ei_cons ⟨by show ((-2147483648) : Int) ≤ g.1 4; omega, by show g.1 4 ≤ (2147483647 : Int); omega⟩ (ei_cons ⟨by show ((-2147483648) : Int) ≤ g.1 5; omega, by show g.1 5 ≤ (2147483647 : Int); omega⟩ (ei_cons ⟨by show ((-2147483648) : Int) ≤ g.1 6; omega, by show g.1 6 ≤ (2147483647 : Int); omega⟩ (ei_cons ⟨by show ((-2147483648) : Int) ≤ g.1 7; omega, by show g.1 7 ≤ (2147483647 : Int); omega⟩ (ei_cons ⟨by show (0 : Int) ≤ 0; omega, by show 0 ≤ (0 : Int); omega⟩ ei_nil))))))))) el_nil (by rfl) dl_nil gd_nil hH hE FR.rf)
  · have z : X1.1 11 1 = g.1 1 + 0 := u2
    exact (altM_mk 2 [1] rfl (ei_cons ⟨by show (0 : Int) ≤ g.1 0; omega, by show g.1 0 ≤ (0 : Int); omega⟩ (ei_cons ⟨by show (0 : Int) ≤ g.1 1; omega, by show g.1 1 ≤ (1 : Int); omega⟩ (ei_cons ⟨by show ((-2147483648) : Int) ≤ g.1 2; omega, by show g.1 2 ≤ (2147483647 : Int); omega⟩ (ei_cons ⟨by show (0 : Int) ≤ g.1 3; omega, by show g.1 3 ≤ (1 : Int); omega⟩ (ei_cons ⟨by show ((-2147483648) : Int) ≤ g.1 4; omega, by show g.1 4 ≤ (2147483647 : Int); omega⟩ (ei_cons ⟨by show ((-2147483648) : Int) ≤ g.1 5; omega, by show g.1 5 ≤ (2147483647 : Int); omega⟩ (ei_cons ⟨by show ((-2147483648) : Int) ≤ g.1 6; omega, by show g.1 6 ≤ (2147483647 : Int); omega⟩ (ei_cons ⟨by show ((-2147483648) : Int) ≤ g.1 7; omega, by show g.1 7 ≤ (2147483647 : Int); omega⟩ (ei_cons ⟨by show (1 : Int) ≤ 1; omega, by show 1 ≤ (1 : Int); omega⟩ ei_nil))))))))) el_nil (by rfl) dl_nil gd_nil hH hE FR.rf)
  · have z : X1.1 11 2 = g.1 1 + 0 := u2
    exact (altM_mk 3 [2] rfl (ei_cons ⟨by show (0 : Int) ≤ g.1 0; omega, by show g.1 0 ≤ (0 : Int); omega⟩ (ei_cons ⟨by show (0 : Int) ≤ g.1 1; omega, by show g.1 1 ≤ (1 : Int); omega⟩ (ei_cons ⟨by show ((-2147483648) : Int) ≤ g.1 2; omega, by show g.1 2 ≤ (2147483647 : Int); omega⟩ (ei_cons ⟨by show ((-2147483648) : Int) ≤ g.1 3; omega, by show g.1 3 ≤ (2147483647 : Int); omega⟩ (ei_cons ⟨by show (0 : Int) ≤ g.1 4; omega, by show g.1 4 ≤ (1 : Int); omega⟩ (ei_cons ⟨by show ((-2147483648) : Int) ≤ g.1 5; omega, by show g.1 5 ≤ (2147483647 : Int); omega⟩ (ei_cons ⟨by show ((-2147483648) : Int) ≤ g.1 6; omega, by show g.1 6 ≤ (2147483647 : Int); omega⟩ (ei_cons ⟨by show ((-2147483648) : Int) ≤ g.1 7; omega, by show g.1 7 ≤ (2147483647 : Int); omega⟩ (ei_cons ⟨by show (2 : Int) ≤ 2; omega, by show 2 ≤ (2 : Int); omega⟩ ei_nil))))))))) el_nil (by rfl) dl_nil gd_nil hH hE FR.rf)
  · have z : X1.1 11 3 = g.1 1 + 0 := u2
    exact (altM_mk 4 [3] rfl (ei_cons ⟨by show (0 : Int) ≤ g.1 0; omega, by show g.1 0 ≤ (0 : Int); omega⟩ (ei_cons ⟨by show (0 : Int) ≤ g.1 1; omega, by show g.1 1 ≤ (1 : Int); omega⟩ (ei_cons ⟨by show ((-2147483648) : Int) ≤ g.1 2; omega, by show g.1 2 ≤ (2147483647 : Int); omega⟩ (ei_cons ⟨by show ((-2147483648) : Int) ≤ g.1 3; omega, by show g.1 3 ≤ (2147483647 : Int); omega⟩ (ei_cons ⟨by show ((-2147483648) : Int) ≤ g.1 4; omega, by show g.1 4 ≤ (2147483647 : Int); omega⟩ (ei_cons ⟨by show (0 : Int) ≤ g.1 5; omega, by show g.1 5 ≤ (1 : Int); omega⟩ (ei_cons ⟨by show ((-2147483648) : Int) ≤ g.1 6; omega, by show g.1 6 ≤ (2147483647 : Int); omega⟩ (ei_cons ⟨by show ((-2147483648) : Int) ≤ g.1 7; omega, by show g.1 7 ≤ (2147483647 : Int); omega⟩ (ei_cons ⟨by show (3 : Int) ≤ 3; omega, by show 3 ≤ (3 : Int); omega⟩ ei_nil))))))))) el_nil (by rfl) dl_nil gd_nil hH hE FR.rf)
  · have z : X1.1 11 4 = g.1 1 + 0 := u2
    exact (altM_mk 5 [4] rfl (ei_cons ⟨by show (0 : Int) ≤ g.1 0; omega, by show g.1 0 ≤ (0 : Int); omega⟩ (ei_cons ⟨by show (0 : Int) ≤ g.1 1; omega, by show g.1 1 ≤ (1 : Int); omega⟩ (ei_cons ⟨by show ((-2147483648) : Int) ≤ g.1 2; omega, by show g.1 2 ≤ (2147483647 : Int); omega⟩ (ei_cons ⟨by show ((-2147483648) : Int) ≤ g.1 3; omega, by show g.1 3 ≤ (2147483647 : Int); omega⟩ (ei_cons ⟨by show ((-2147483648) : Int) ≤ g.1 4; omega, by show g.1 4 ≤ (2147483647 : Int); omega⟩ (ei_cons ⟨by show ((-2147483648) : Int) ≤ g.1 5; omega, by show g.1 5 ≤ (2147483647 : Int); omega⟩ (ei_cons ⟨by show (0 : Int) ≤ g.1 6; omega, by show g.1 6 ≤ (1 : Int); omega⟩ (ei_cons ⟨by show ((-2147483648) : Int) ≤ g.1 7; omega, by show g.1 7 ≤ (2147483647 : Int); omega⟩ (ei_cons ⟨by show (4 : Int) ≤ 4; omega, by show 4 ≤ (4 : Int); omega⟩ ei_nil))))))))) el_nil (by rfl) dl_nil gd_nil hH hE FR.rf)
  · have z : X1.1 11 5 = g.1 1 + 0 := u2
    exact (altM_mk 6 [5] rfl (ei_cons ⟨by show (0 : Int) ≤ g.1 0; omega, by show g.1 0 ≤ (0 : Int); omega⟩ (ei_cons ⟨by show (0 : Int) ≤ g.1 1; omega, by show g.1 1 ≤ (1 : Int); omega⟩ (ei_cons ⟨by show ((-2147483648) : Int) ≤ g.1 2; omega, by show g.1 2 ≤ (2147483647 : Int); omega⟩ (ei_cons ⟨by show ((-2147483648) : Int) ≤ g.1 3; omega, by show g.1 3 ≤ (2147483647 : Int); omega⟩ (ei_cons ⟨by show ((-2147483648) : Int) ≤ g.1 4; omega, by show g.1 4 ≤ (2147483647 : Int); omega⟩ (ei_cons ⟨by show ((-2147483648) : Int) ≤ g.1 5; omega, by show g.1 5 ≤ (2147483647 : Int); omega⟩ (ei_cons ⟨by show ((-2147483648) : Int) ≤ g.1 6; omega, by show g.1 6 ≤ (2147483647 : Int); omega⟩ (ei_cons ⟨by show (0 : Int) ≤ g.1 7; omega, by show g.1 7 ≤ (1 : Int); omega⟩ (ei_cons ⟨by show (5 : Int) ≤ 5; omega, by show 5 ≤ (5 : Int); omega⟩ ei_nil))))))))) el_nil (by rfl) dl_nil gd_nil hH hE FR.rf)
set_option maxHeartbeats 4000000 in
set_option maxRecDepth 100000 in
theorem xf_isSt101_7 {D : va_G} {ad : Nat → Nat} {cA : Nat → ClassId} {X : XT} {q k : Int} (q0 : 0 ≤ q) (q1 : q ≤ 1) (hb : X.2.2 101 0 = some 7) (hH : HG vX X) (k0 : 0 ≤ k) (k5 : k ≤ 5) : MetX (wX D ad cA) yX7_isStanding cX7_isStanding 3 (some .boolean) 0 0 [.ref 101, .int (iI (k)), .int (iI (q))] X (fun r X' => X' = X ∧ ∃ u : Int, r = some (.int (iI u)) ∧ ((u = 1 ∧ SNT (X.1 8) (X.1 102) q k.toNat) ∨ (u = 0 ∧ ¬ SNT (X.1 8) (X.1 102) q k.toNat))) := by
  refine MetX.mk (own := RX7) (by decide +kernel) rfl (nle rfl) (fun E C hQ => ?_)
  refine Wx_lv (lv' := [(0, .ref 101), (1, .int (iI (k))), (2, .int (iI (q)))]) rfl ?_
  refine x_aload_n (i := 0) C dX7_isStanding_0 rfl rfl ?_
  refine x_getRs (r := 7) C fkX_X7_18 (nlt rfl) rfl hb dX7_isStanding_1 ?_
  refine x_getRs (r := 8) C fkX_X7_40 (nlt rfl) rfl (HG.rR hH (k := 7) (i := 5) rfl rfl) dX7_isStanding_4 ?_
  refine x_iload_n (i := 1) C dX7_isStanding_7 rfl rfl ?_
  refine x_iald C (nlt rfl) rfl rfl (nle rfl) (by omega) (by omega) dX7_isStanding_8 ?_
  refine x_gen (fun v1 ev1 => ?_)
  have qv1 : ((-2147483648) : Int) ≤ v1 ∧ v1 ≤ (2147483647 : Int) := by
    rw [ev1]
    exact hH.rA (k := 8) (n := 6) (p := ((-2147483648), 2147483647)) (nlt rfl) rfl (by decide +kernel) (by omega)
  refine x_iload_n (i := 2) C dX7_isStanding_9 rfl rfl ?_
  refine x_icmp_ne (tgt := 27) C dX7_isStanding_10 (by decide) ⟨by omega, by omega⟩ ⟨by omega, by omega⟩ (fun h2 => ?_) (fun h2 => ?_)
  · refine x_iconst C dX7_isStanding_27 ?_
    exact x_zret C hQ (by omega) dX7_isStanding_28 (⟨rfl, _, rfl, .inr ⟨rfl, fun t => by have t1 := t.1; have t2 := t.2; omega⟩⟩)
  · refine x_aload_n (i := 0) C dX7_isStanding_13 rfl rfl ?_
    refine x_getRs (r := 102) C fkX_X7_9 (nlt rfl) rfl (HG.rR hH (k := 101) (i := 3) rfl rfl) dX7_isStanding_14 ?_
    refine x_iload_n (i := 1) C dX7_isStanding_17 rfl rfl ?_
    refine x_iald C (nlt rfl) rfl rfl (nle rfl) (by omega) (by omega) dX7_isStanding_18 ?_
    refine x_gen (fun v3 ev3 => ?_)
    have qv3 : ((-2147483648) : Int) ≤ v3 ∧ v3 ≤ (2147483647 : Int) := by
      rw [ev3]
      exact hH.rA (k := 102) (n := 6) (p := ((-2147483648), 2147483647)) (nlt rfl) rfl (by decide +kernel) (by omega)
    refine x_iconst C dX7_isStanding_19 ?_
    refine x_icmp_eq (tgt := 27) C dX7_isStanding_20 (by decide) ⟨by omega, by omega⟩ ⟨by omega, by omega⟩ (fun h4 => ?_) (fun h4 => ?_)
    · refine x_iconst C dX7_isStanding_27 ?_
      exact x_zret C hQ (by omega) dX7_isStanding_28 (⟨rfl, _, rfl, .inr ⟨rfl, fun t => by have t1 := t.1; have t2 := t.2; omega⟩⟩)
    · refine x_iconst C dX7_isStanding_23 ?_
      refine x_goto (tgt := 28) C dX7_isStanding_24 (by decide) ?_
      exact x_zret C hQ (by omega) dX7_isStanding_28 (⟨rfl, _, rfl, .inl ⟨rfl, by rw [← ev1]; omega, by rw [← ev3]; omega⟩⟩)
set_option maxHeartbeats 4000000 in
set_option maxRecDepth 100000 in
theorem xl_nxB101_7 {D : va_G} {ad : Nat → Nat} {cA : Nat → ClassId} {X : XT} {q : Int} (q0 : 0 ≤ q) (q1 : q ≤ 1) (hb : X.2.2 101 0 = some 7) (hH : HG vX X) {E : ET} (C : CX E (wX D ad cA) cX7_nextMan 4 RX7 (some .int) { frames := 1, cells := 0, slots := 0, locals := 22 }) (hQ : EQ E (wX D ad cA) (fun r X' => X' = X ∧ ∃ u : Int, r = some (.int (iI u)) ∧ NMT (X.1 7 4) (X.1 8) (X.1 102) (X.1 103 q.toNat) q u)) : ∀ (n : Nat) (i : Int) (l : Int), 7 - i < n → 0 ≤ i → i ≤ 6 → X.1 103 q.toNat < i → LST (X.1 7 4) (X.1 8) (X.1 102) q (-1) l → BHD (X.1 8) (X.1 102) q (X.1 103 q.toNat) i → Wx E (wX D ad cA) 4 (PX (wX D ad cA) X) 42 [(3, .int (iI (i))), (2, .int (iI (l))), (0, .ref 101), (1, .int (iI (q)))] [] := by
  intro n
  induction n with
  | zero => intro i l hn i0 i1 iw hl hw; exfalso; omega
  | succ n ih =>
    intro i l hn i0 i1 iw hl hw
    have hm : (0 : Int) ≤ (X.1 7 4) ∧ (X.1 7 4) ≤ 6 := hH.rF (k := 7) (i := 4) (p := (0, 6)) rfl rfl
    have lb := lst_b hl
    refine x_iload_n (i := 3) C dX7_nextMan_42 rfl rfl ?_
    refine x_aload_n (i := 0) C dX7_nextMan_43 rfl rfl ?_
    refine x_getRs (r := 7) C fkX_X7_18 (nlt rfl) rfl hb dX7_nextMan_44 ?_
    refine x_getI C fkX_X7_43 (nlt rfl) rfl dX7_nextMan_47 ?_
    refine x_gen (fun v1 ev1 => ?_)
    have qv1 : (0 : Int) ≤ v1 ∧ v1 ≤ (6 : Int) := by
      rw [ev1]
      exact hH.rF (k := 7) (i := 4) rfl rfl
    have mv1 : v1 = X.1 7 4 := ev1
    refine x_icmp_ge (tgt := 70) C dX7_nextMan_50 (by decide) ⟨by omega, by omega⟩ ⟨by omega, by omega⟩ (fun h2 => ?_) (fun h2 => ?_)
    · refine x_iload_n (i := 2) C dX7_nextMan_70 rfl rfl ?_
      exact x_iret C hQ dX7_nextMan_71 (⟨rfl, _, rfl, nmt_l hl hw (by omega)⟩)
    · refine x_aload_n (i := 0) C dX7_nextMan_53 rfl rfl ?_
      refine x_iload_n (i := 3) C dX7_nextMan_54 rfl rfl ?_
      refine x_iload_n (i := 1) C dX7_nextMan_55 rfl rfl ?_
      refine x_callV (As := [.int (iI (i)), .int (iI (q))]) C (by exact (xf_isSt101_7 (k := i) q0 q1 hb hH (by omega) (by omega))) ckX7_46 im_X7_isStanding se_X7_isStanding (nlt rfl) rfl rfl rfl rfl (nle rfl) (by exact ⟨nle rfl, nle rfl⟩) dX7_nextMan_56 ?_
      rintro _ Xv3 ⟨hxv3, v3, rfl, ev3⟩
      rw [hxv3]
      refine Wx_st (st' := [.int (iI (v3))]) rfl ?_
      refine x_if_eq (tgt := 64) C dX7_nextMan_59 (by decide) ⟨by omega, by omega⟩ (fun h4 => ?_) (fun h4 => ?_)
      · refine x_iinc (lv' := [(3, .int (iI (i + 1))), (2, .int (iI (l))), (0, .ref 101), (1, .int (iI (q)))]) C dX7_nextMan_64 rfl (nlt rfl) rfl ?_
        refine x_goto (tgt := 42) C dX7_nextMan_67 (by decide) ?_
        refine Wx_pick [3, 2, 0, 1] ?_
        refine Wx_lv (lv' := [(3, .int (iI (i + 1))), (2, .int (iI (l))), (0, .ref 101), (1, .int (iI (q)))]) rfl ?_
        exact ih _ _ (by omega) (by omega) (by omega) (by omega) hl (bhd_n (by omega) hw (ev3.elim (fun t => by exfalso; have := t.1; omega) (fun t => t.2)))
      · refine x_iload_n (i := 3) C dX7_nextMan_62 rfl rfl ?_
        exact x_iret C hQ dX7_nextMan_63 (⟨rfl, _, rfl, nmt_i (by omega) (by omega) (by omega) hw (ev3.elim (fun t => t.2) (fun t => by exfalso; have := t.1; omega))⟩)
set_option maxHeartbeats 4000000 in
set_option maxRecDepth 100000 in
theorem xl_nxA101_7 {D : va_G} {ad : Nat → Nat} {cA : Nat → ClassId} {X : XT} {q : Int} (q0 : 0 ≤ q) (q1 : q ≤ 1) (hb : X.2.2 101 0 = some 7) (hH : HG vX X) {E : ET} (C : CX E (wX D ad cA) cX7_nextMan 4 RX7 (some .int) { frames := 1, cells := 0, slots := 0, locals := 22 }) (hQ : EQ E (wX D ad cA) (fun r X' => X' = X ∧ ∃ u : Int, r = some (.int (iI u)) ∧ NMT (X.1 7 4) (X.1 8) (X.1 102) (X.1 103 q.toNat) q u)) : ∀ (n : Nat) (i : Int) (l : Int), i + 1 < n → -1 ≤ i → i < (X.1 7 4) → LST (X.1 7 4) (X.1 8) (X.1 102) q i l → Wx E (wX D ad cA) 4 (PX (wX D ad cA) X) 12 [(3, .int (iI (i))), (2, .int (iI (l))), (0, .ref 101), (1, .int (iI (q)))] [] := by
  intro n
  induction n with
  | zero => intro i l hn i0 i1 hl; exfalso; omega
  | succ n ih =>
    intro i l hn i0 i1 hl
    have hm : (0 : Int) ≤ (X.1 7 4) ∧ (X.1 7 4) ≤ 6 := hH.rF (k := 7) (i := 4) (p := (0, 6)) rfl rfl
    have lb := lst_b hl
    refine x_iload_n (i := 3) C dX7_nextMan_12 rfl rfl ?_
    refine x_if_lt (tgt := 33) C dX7_nextMan_13 (by decide) ⟨by omega, by omega⟩ (fun h1 => ?_) (fun h1 => ?_)
    · refine x_aload_n (i := 0) C dX7_nextMan_33 rfl rfl ?_
      refine x_getRs (r := 103) C fkX_X7_15 (nlt rfl) rfl (HG.rR hH (k := 101) (i := 4) rfl rfl) dX7_nextMan_34 ?_
      refine x_iload_n (i := 1) C dX7_nextMan_37 rfl rfl ?_
      refine x_iald C (nlt rfl) rfl rfl (nle rfl) (by omega) (by omega) dX7_nextMan_38 ?_
      refine x_gen (fun v2 ev2 => ?_)
      have qv2 : ((-1) : Int) ≤ v2 ∧ v2 ≤ (0 : Int) := by
        rw [ev2]
        exact hH.rA (k := 103) (n := 2) (p := ((-1), 0)) (nlt rfl) rfl (by decide +kernel) (by omega)
      refine x_iconst C dX7_nextMan_39 ?_
      refine x_iadd C dX7_nextMan_40 ?_
      refine x_gen (fun v3 ev3 => ?_)
      refine x_istore_n (i := 3) (lv' := [(3, .int (iI (v3))), (2, .int (iI (l))), (0, .ref 101), (1, .int (iI (q)))]) C dX7_nextMan_41 rfl (nlt rfl) rfl ?_
      refine Wx_pick [3, 2, 0, 1] ?_
      refine Wx_lv (lv' := [(3, .int (iI (v3))), (2, .int (iI (l))), (0, .ref 101), (1, .int (iI (q)))]) rfl ?_
      exact xl_nxB101_7 q0 q1 hb hH C hQ 8 _ _ (by omega) (by omega) (by omega) (by omega) (by rw [show i = -1 by omega] at hl; exact hl) (bhd_0 (by omega))
    · refine x_aload_n (i := 0) C dX7_nextMan_16 rfl rfl ?_
      refine x_iload_n (i := 3) C dX7_nextMan_17 rfl rfl ?_
      refine x_iload_n (i := 1) C dX7_nextMan_18 rfl rfl ?_
      refine x_callV (As := [.int (iI (i)), .int (iI (q))]) C (by exact (xf_isSt101_7 (k := i) q0 q1 hb hH (by omega) (by omega))) ckX7_46 im_X7_isStanding se_X7_isStanding (nlt rfl) rfl rfl rfl rfl (nle rfl) (by exact ⟨nle rfl, nle rfl⟩) dX7_nextMan_19 ?_
      rintro _ Xv4 ⟨hxv4, v4, rfl, ev4⟩
      rw [hxv4]
      refine Wx_st (st' := [.int (iI (v4))]) rfl ?_
      refine x_if_eq (tgt := 27) C dX7_nextMan_22 (by decide) ⟨by omega, by omega⟩ (fun h5 => ?_) (fun h5 => ?_)
      · refine x_iinc (lv' := [(3, .int (iI (i + (-1)))), (2, .int (iI (l))), (0, .ref 101), (1, .int (iI (q)))]) C dX7_nextMan_27 rfl (nlt rfl) rfl ?_
        refine x_goto (tgt := 12) C dX7_nextMan_30 (by decide) ?_
        refine Wx_pick [3, 2, 0, 1] ?_
        refine Wx_lv (lv' := [(3, .int (iI (i + (-1)))), (2, .int (iI (l))), (0, .ref 101), (1, .int (iI (q)))]) rfl ?_
        exact ih _ _ (by omega) (by omega) (by omega) (lst_n (by omega) hl (ev4.elim (fun t => by exfalso; have := t.1; omega) (fun t => t.2)))
      · refine x_iload_n (i := 3) C dX7_nextMan_25 rfl rfl ?_
        refine x_istore_n (i := 2) (lv' := [(2, .int (iI (i))), (3, .int (iI (i))), (0, .ref 101), (1, .int (iI (q)))]) C dX7_nextMan_26 rfl (nlt rfl) rfl ?_
        refine x_iinc (lv' := [(3, .int (iI (i + (-1)))), (2, .int (iI (i))), (0, .ref 101), (1, .int (iI (q)))]) C dX7_nextMan_27 rfl (nlt rfl) rfl ?_
        refine x_goto (tgt := 12) C dX7_nextMan_30 (by decide) ?_
        refine Wx_pick [3, 2, 0, 1] ?_
        refine Wx_lv (lv' := [(3, .int (iI (i + (-1)))), (2, .int (iI (i))), (0, .ref 101), (1, .int (iI (q)))]) rfl ?_
        exact ih _ _ (by omega) (by omega) (by omega) (lst_y (by omega) i1 hl (ev4.elim (fun t => t.2) (fun t => by exfalso; have := t.1; omega)))
set_option maxHeartbeats 4000000 in
set_option maxRecDepth 100000 in
theorem xf_nextMan101_7 {D : va_G} {ad : Nat → Nat} {cA : Nat → ClassId} {X : XT} {q : Int} (q0 : 0 ≤ q) (q1 : q ≤ 1) (hb : X.2.2 101 0 = some 7) (hH : HG vX X) : MetX (wX D ad cA) yX7_nextMan cX7_nextMan 4 (some .int) 1 22 [.ref 101, .int (iI (q))] X (fun r X' => X' = X ∧ ∃ u : Int, r = some (.int (iI u)) ∧ NMT (X.1 7 4) (X.1 8) (X.1 102) (X.1 103 q.toNat) q u) := by
  have hm : (0 : Int) ≤ (X.1 7 4) ∧ (X.1 7 4) ≤ 6 := hH.rF (k := 7) (i := 4) (p := (0, 6)) rfl rfl
  refine MetX.mk (own := RX7) (by decide +kernel) rfl (nle rfl) (fun E C hQ => ?_)
  refine Wx_lv (lv' := [(0, .ref 101), (1, .int (iI (q)))]) rfl ?_
  refine x_iconst C dX7_nextMan_0 ?_
  refine x_istore_n (i := 2) (lv' := [(2, .int (iI ((-1)))), (0, .ref 101), (1, .int (iI (q)))]) C dX7_nextMan_1 rfl (nlt rfl) rfl ?_
  refine x_aload_n (i := 0) C dX7_nextMan_2 rfl rfl ?_
  refine x_getRs (r := 7) C fkX_X7_18 (nlt rfl) rfl hb dX7_nextMan_3 ?_
  refine x_getI C fkX_X7_43 (nlt rfl) rfl dX7_nextMan_6 ?_
  refine x_gen (fun v1 ev1 => ?_)
  have qv1 : (0 : Int) ≤ v1 ∧ v1 ≤ (6 : Int) := by
    rw [ev1]
    exact hH.rF (k := 7) (i := 4) rfl rfl
  have mv1 : v1 = X.1 7 4 := ev1
  refine x_iconst C dX7_nextMan_9 ?_
  refine x_isub C dX7_nextMan_10 ?_
  refine x_gen (fun v2 ev2 => ?_)
  refine x_istore_n (i := 3) (lv' := [(3, .int (iI (v2))), (2, .int (iI ((-1)))), (0, .ref 101), (1, .int (iI (q)))]) C dX7_nextMan_11 rfl (nlt rfl) rfl ?_
  refine Wx_pick [3, 2, 0, 1] ?_
  refine Wx_lv (lv' := [(3, .int (iI (v2))), (2, .int (iI ((-1)))), (0, .ref 101), (1, .int (iI (q)))]) rfl ?_
  exact xl_nxA101_7 q0 q1 hb hH C hQ 8 _ (-1) (by omega) (by omega) (by omega) (lst_0 (by omega))
set_option maxRecDepth 10000 in
theorem t_X_219 {D : va_G} {ad : Nat → Nat} {cA : Nat → ClassId} : CTR mtX vX gX (wX D ad cA) k_X_219 := by
  intro g X hpre
  obtain ⟨h00, hei, hel, hdl, hH, hE⟩ := hpre
  have h0 : (0 : Int) ≤ g.1 0 ∧ g.1 0 ≤ (0 : Int) := hei 0 _ rfl
  have h1 : (0 : Int) ≤ g.1 1 ∧ g.1 1 ≤ (1 : Int) := hei 1 _ rfl
  have h2 : ((-2147483648) : Int) ≤ g.1 2 ∧ g.1 2 ≤ (2147483647 : Int) := hei 2 _ rfl
  have h3 : ((-2147483648) : Int) ≤ g.1 3 ∧ g.1 3 ≤ (2147483647 : Int) := hei 3 _ rfl
  have h4 : ((-2147483648) : Int) ≤ g.1 4 ∧ g.1 4 ≤ (2147483647 : Int) := hei 4 _ rfl
  have h5 : ((-2147483648) : Int) ≤ g.1 5 ∧ g.1 5 ≤ (2147483647 : Int) := hei 5 _ rfl
  have h6 : ((-2147483648) : Int) ≤ g.1 6 ∧ g.1 6 ≤ (2147483647 : Int) := hei 6 _ rfl
  have h7 : ((-2147483648) : Int) ≤ g.1 7 ∧ g.1 7 ≤ (2147483647 : Int) := hei 7 _ rfl
  have hb : X.2.2 101 0 = some 7 := hdl ((101, 0), (2, 7, 0)) (.head _)
  have f0 : X.1 8 0 = g.1 2 + 0 := (hdl ((8, 0), (0, 2, 0)) (.tail _ (.head _)))
  have f1 : X.1 8 1 = g.1 3 + 0 := (hdl ((8, 1), (0, 3, 0)) (.tail _ (.tail _ (.head _))))
  have f2 : X.1 8 2 = g.1 4 + 0 := (hdl ((8, 2), (0, 4, 0)) (.tail _ (.tail _ (.tail _ (.head _)))))
  have f3 : X.1 8 3 = g.1 5 + 0 := (hdl ((8, 3), (0, 5, 0)) (.tail _ (.tail _ (.tail _ (.tail _ (.head _))))))
  have f4 : X.1 8 4 = g.1 6 + 0 := (hdl ((8, 4), (0, 6, 0)) (.tail _ (.tail _ (.tail _ (.tail _ (.tail _ (.head _)))))))
  have f5 : X.1 8 5 = g.1 7 + 0 := (hdl ((8, 5), (0, 7, 0)) (.tail _ (.tail _ (.tail _ (.tail _ (.tail _ (.tail _ (.head _))))))))
  have hm : (0 : Int) ≤ (X.1 7 4) ∧ (X.1 7 4) ≤ 6 := hH.rF (k := 7) (i := 4) (p := (0, 6)) rfl rfl
  refine MetX.imp (fun r X1 hp => ?_) (xf_nextMan101_7 (X := X) (q := g.1 1 + 0) (by omega) (by omega) hb hH)
  obtain ⟨rfl, u, rfl, hu⟩ := hp
  rcases nmt_c hu with rfl | ⟨u0, u1, u2⟩
  · exact (altM_mk 0 [(-1)] rfl (ei_cons ⟨by show (0 : Int) ≤ g.1 0; omega, by show g.1 0 ≤ (0 : Int); omega⟩ (ei_cons ⟨by show (0 : Int) ≤ g.1 1; omega, by show g.1 1 ≤ (1 : Int); omega⟩ (ei_cons ⟨by show ((-2147483648) : Int) ≤ g.1 2; omega, by show g.1 2 ≤ (2147483647 : Int); omega⟩ (ei_cons ⟨by show ((-2147483648) : Int) ≤ g.1 3; omega, by show g.1 3 ≤ (2147483647 : Int); omega⟩ (ei_cons ⟨by show ((-2147483648) : Int) ≤ g.1 4; omega, by show g.1 4 ≤ (2147483647 : Int); omega⟩ (ei_cons ⟨by show ((-2147483648) : Int) ≤ g.1 5; omega, by show g.1 5 ≤ (2147483647 : Int); omega⟩ (ei_cons ⟨by show ((-2147483648) : Int) ≤ g.1 6; omega, by show g.1 6 ≤ (2147483647 : Int); omega⟩ (ei_cons ⟨by show ((-2147483648) : Int) ≤ g.1 7; omega, by show g.1 7 ≤ (2147483647 : Int); omega⟩ (ei_cons ⟨by show ((-1) : Int) ≤ (-1); omega, by show (-1) ≤ ((-1) : Int); omega⟩ ei_nil))))))))) el_nil (by rfl) dl_nil gd_nil hH hE FR.rf)
  rcases (show u = 0 ∨ u = 1 ∨ u = 2 ∨ u = 3 ∨ u = 4 ∨ u = 5 by omega) with rfl | rfl | rfl | rfl | rfl | rfl
  · have z : X1.1 8 0 = g.1 1 + 0 := u2
    exact (altM_mk 1 [0] rfl (ei_cons ⟨by show (0 : Int) ≤ g.1 0; omega, by show g.1 0 ≤ (0 : Int); omega⟩ (ei_cons ⟨by show (0 : Int) ≤ g.1 1; omega, by show g.1 1 ≤ (1 : Int); omega⟩ (ei_cons ⟨by show (0 : Int) ≤ g.1 2; omega, by show g.1 2 ≤ (1 : Int); omega⟩ (ei_cons ⟨by show ((-2147483648) : Int) ≤ g.1 3; omega, by show g.1 3 ≤ (2147483647 : Int); omega⟩ (ei_cons ⟨by show ((-2147483648) : Int) ≤ g.1 4; omega, by show g.1 4 ≤ (2147483647 : Int); omega⟩ (ei_cons ⟨by show ((-2147483648) : Int) ≤ g.1 5; omega, by show g.1 5 ≤ (2147483647 : Int); omega⟩ (ei_cons ⟨by show ((-2147483648) : Int) ≤ g.1 6; omega, by show g.1 6 ≤ (2147483647 : Int); omega⟩ (ei_cons ⟨by show ((-2147483648) : Int) ≤ g.1 7; omega, by show g.1 7 ≤ (2147483647 : Int); omega⟩ (ei_cons ⟨by show (0 : Int) ≤ 0; omega, by show 0 ≤ (0 : Int); omega⟩ ei_nil))))))))) el_nil (by rfl) dl_nil gd_nil hH hE FR.rf)
  · have z : X1.1 8 1 = g.1 1 + 0 := u2
    exact (altM_mk 2 [1] rfl (ei_cons ⟨by show (0 : Int) ≤ g.1 0; omega, by show g.1 0 ≤ (0 : Int); omega⟩ (ei_cons ⟨by show (0 : Int) ≤ g.1 1; omega, by show g.1 1 ≤ (1 : Int); omega⟩ (ei_cons ⟨by show ((-2147483648) : Int) ≤ g.1 2; omega, by show g.1 2 ≤ (2147483647 : Int); omega⟩ (ei_cons ⟨by show (0 : Int) ≤ g.1 3; omega, by show g.1 3 ≤ (1 : Int); omega⟩ (ei_cons ⟨by show ((-2147483648) : Int) ≤ g.1 4; omega, by show g.1 4 ≤ (2147483647 : Int); omega⟩ (ei_cons ⟨by show ((-2147483648) : Int) ≤ g.1 5; omega, by show g.1 5 ≤ (2147483647 : Int); omega⟩ (ei_cons ⟨by show ((-2147483648) : Int) ≤ g.1 6; omega, by show g.1 6 ≤ (2147483647 : Int); omega⟩ (ei_cons ⟨by show ((-2147483648) : Int) ≤ g.1 7; omega, by show g.1 7 ≤ (2147483647 : Int); omega⟩ (ei_cons ⟨by show (1 : Int) ≤ 1; omega, by show 1 ≤ (1 : Int); omega⟩ ei_nil))))))))) el_nil (by rfl) dl_nil gd_nil hH hE FR.rf)
  · have z : X1.1 8 2 = g.1 1 + 0 := u2
    exact (altM_mk 3 [2] rfl (ei_cons ⟨by show (0 : Int) ≤ g.1 0; omega, by show g.1 0 ≤ (0 : Int); omega⟩ (ei_cons ⟨by show (0 : Int) ≤ g.1 1; omega, by show g.1 1 ≤ (1 : Int); omega⟩ (ei_cons ⟨by show ((-2147483648) : Int) ≤ g.1 2; omega, by show g.1 2 ≤ (2147483647 : Int); omega⟩ (ei_cons ⟨by show ((-2147483648) : Int) ≤ g.1 3; omega, by show g.1 3 ≤ (2147483647 : Int); omega⟩ (ei_cons ⟨by show (0 : Int) ≤ g.1 4; omega, by show g.1 4 ≤ (1 : Int); omega⟩ (ei_cons ⟨by show ((-2147483648) : Int) ≤ g.1 5; omega, by show g.1 5 ≤ (2147483647 : Int); omega⟩ (ei_cons ⟨by show ((-2147483648) : Int) ≤ g.1 6; omega, by show g.1 6 ≤ (2147483647 : Int); omega⟩ (ei_cons ⟨by show ((-2147483648) : Int) ≤ g.1 7; omega, by show g.1 7 ≤ (2147483647 : Int); omega⟩ (ei_cons ⟨by show (2 : Int) ≤ 2; omega, by show 2 ≤ (2 : Int); omega⟩ ei_nil))))))))) el_nil (by rfl) dl_nil gd_nil hH hE FR.rf)
  · have z : X1.1 8 3 = g.1 1 + 0 := u2
    exact (altM_mk 4 [3] rfl (ei_cons ⟨by show (0 : Int) ≤ g.1 0; omega, by show g.1 0 ≤ (0 : Int); omega⟩ (ei_cons ⟨by show (0 : Int) ≤ g.1 1; omega, by show g.1 1 ≤ (1 : Int); omega⟩ (ei_cons ⟨by show ((-2147483648) : Int) ≤ g.1 2; omega, by show g.1 2 ≤ (2147483647 : Int); omega⟩ (ei_cons ⟨by show ((-2147483648) : Int) ≤ g.1 3; omega, by show g.1 3 ≤ (2147483647 : Int); omega⟩ (ei_cons ⟨by show ((-2147483648) : Int) ≤ g.1 4; omega, by show g.1 4 ≤ (2147483647 : Int); omega⟩ (ei_cons ⟨by show (0 : Int) ≤ g.1 5; omega, by show g.1 5 ≤ (1 : Int); omega⟩ (ei_cons ⟨by show ((-2147483648) : Int) ≤ g.1 6; omega, by show g.1 6 ≤ (2147483647 : Int); omega⟩ (ei_cons ⟨by show ((-2147483648) : Int) ≤ g.1 7; omega, by show g.1 7 ≤ (2147483647 : Int); omega⟩ (ei_cons ⟨by show (3 : Int) ≤ 3; omega, by show 3 ≤ (3 : Int); omega⟩ ei_nil))))))))) el_nil (by rfl) dl_nil gd_nil hH hE FR.rf)
  · have z : X1.1 8 4 = g.1 1 + 0 := u2
    exact (altM_mk 5 [4] rfl (ei_cons ⟨by show (0 : Int) ≤ g.1 0; omega, by show g.1 0 ≤ (0 : Int); omega⟩ (ei_cons ⟨by show (0 : Int) ≤ g.1 1; omega, by show g.1 1 ≤ (1 : Int); omega⟩ (ei_cons ⟨by show ((-2147483648) : Int) ≤ g.1 2; omega, by show g.1 2 ≤ (2147483647 : Int); omega⟩ (ei_cons ⟨by show ((-2147483648) : Int) ≤ g.1 3; omega, by show g.1 3 ≤ (2147483647 : Int); omega⟩ (ei_cons ⟨by show ((-2147483648) : Int) ≤ g.1 4; omega, by show g.1 4 ≤ (2147483647 : Int); omega⟩ (ei_cons ⟨by show ((-2147483648) : Int) ≤ g.1 5; omega, by show g.1 5 ≤ (2147483647 : Int); omega⟩ (ei_cons ⟨by show (0 : Int) ≤ g.1 6; omega, by show g.1 6 ≤ (1 : Int); omega⟩ (ei_cons ⟨by show ((-2147483648) : Int) ≤ g.1 7; omega, by show g.1 7 ≤ (2147483647 : Int); omega⟩ (ei_cons ⟨by show (4 : Int) ≤ 4; omega, by show 4 ≤ (4 : Int); omega⟩ ei_nil))))))))) el_nil (by rfl) dl_nil gd_nil hH hE FR.rf)
  · have z : X1.1 8 5 = g.1 1 + 0 := u2
    exact (altM_mk 6 [5] rfl (ei_cons ⟨by show (0 : Int) ≤ g.1 0; omega, by show g.1 0 ≤ (0 : Int); omega⟩ (ei_cons ⟨by show (0 : Int) ≤ g.1 1; omega, by show g.1 1 ≤ (1 : Int); omega⟩ (ei_cons ⟨by show ((-2147483648) : Int) ≤ g.1 2; omega, by show g.1 2 ≤ (2147483647 : Int); omega⟩ (ei_cons ⟨by show ((-2147483648) : Int) ≤ g.1 3; omega, by show g.1 3 ≤ (2147483647 : Int); omega⟩ (ei_cons ⟨by show ((-2147483648) : Int) ≤ g.1 4; omega, by show g.1 4 ≤ (2147483647 : Int); omega⟩ (ei_cons ⟨by show ((-2147483648) : Int) ≤ g.1 5; omega, by show g.1 5 ≤ (2147483647 : Int); omega⟩ (ei_cons ⟨by show ((-2147483648) : Int) ≤ g.1 6; omega, by show g.1 6 ≤ (2147483647 : Int); omega⟩ (ei_cons ⟨by show (0 : Int) ≤ g.1 7; omega, by show g.1 7 ≤ (1 : Int); omega⟩ (ei_cons ⟨by show (5 : Int) ≤ 5; omega, by show 5 ≤ (5 : Int); omega⟩ ei_nil))))))))) el_nil (by rfl) dl_nil gd_nil hH hE FR.rf)
set_option maxHeartbeats 4000000 in
set_option maxRecDepth 100000 in
theorem xf_isSt98_7 {D : va_G} {ad : Nat → Nat} {cA : Nat → ClassId} {X : XT} {q k : Int} (q0 : 0 ≤ q) (q1 : q ≤ 1) (hb : X.2.2 98 0 = some 7) (hH : HG vX X) (k0 : 0 ≤ k) (k5 : k ≤ 5) : MetX (wX D ad cA) yX7_isStanding cX7_isStanding 3 (some .boolean) 0 0 [.ref 98, .int (iI (k)), .int (iI (q))] X (fun r X' => X' = X ∧ ∃ u : Int, r = some (.int (iI u)) ∧ ((u = 1 ∧ SNT (X.1 8) (X.1 99) q k.toNat) ∨ (u = 0 ∧ ¬ SNT (X.1 8) (X.1 99) q k.toNat))) := by
  refine MetX.mk (own := RX7) (by decide +kernel) rfl (nle rfl) (fun E C hQ => ?_)
  refine Wx_lv (lv' := [(0, .ref 98), (1, .int (iI (k))), (2, .int (iI (q)))]) rfl ?_
  refine x_aload_n (i := 0) C dX7_isStanding_0 rfl rfl ?_
  refine x_getRs (r := 7) C fkX_X7_18 (nlt rfl) rfl hb dX7_isStanding_1 ?_
  refine x_getRs (r := 8) C fkX_X7_40 (nlt rfl) rfl (HG.rR hH (k := 7) (i := 5) rfl rfl) dX7_isStanding_4 ?_
  refine x_iload_n (i := 1) C dX7_isStanding_7 rfl rfl ?_
  refine x_iald C (nlt rfl) rfl rfl (nle rfl) (by omega) (by omega) dX7_isStanding_8 ?_
  refine x_gen (fun v1 ev1 => ?_)
  have qv1 : ((-2147483648) : Int) ≤ v1 ∧ v1 ≤ (2147483647 : Int) := by
    rw [ev1]
    exact hH.rA (k := 8) (n := 6) (p := ((-2147483648), 2147483647)) (nlt rfl) rfl (by decide +kernel) (by omega)
  refine x_iload_n (i := 2) C dX7_isStanding_9 rfl rfl ?_
  refine x_icmp_ne (tgt := 27) C dX7_isStanding_10 (by decide) ⟨by omega, by omega⟩ ⟨by omega, by omega⟩ (fun h2 => ?_) (fun h2 => ?_)
  · refine x_iconst C dX7_isStanding_27 ?_
    exact x_zret C hQ (by omega) dX7_isStanding_28 (⟨rfl, _, rfl, .inr ⟨rfl, fun t => by have t1 := t.1; have t2 := t.2; omega⟩⟩)
  · refine x_aload_n (i := 0) C dX7_isStanding_13 rfl rfl ?_
    refine x_getRs (r := 99) C fkX_X7_9 (nlt rfl) rfl (HG.rR hH (k := 98) (i := 3) rfl rfl) dX7_isStanding_14 ?_
    refine x_iload_n (i := 1) C dX7_isStanding_17 rfl rfl ?_
    refine x_iald C (nlt rfl) rfl rfl (nle rfl) (by omega) (by omega) dX7_isStanding_18 ?_
    refine x_gen (fun v3 ev3 => ?_)
    have qv3 : ((-2147483648) : Int) ≤ v3 ∧ v3 ≤ (2147483647 : Int) := by
      rw [ev3]
      exact hH.rA (k := 99) (n := 6) (p := ((-2147483648), 2147483647)) (nlt rfl) rfl (by decide +kernel) (by omega)
    refine x_iconst C dX7_isStanding_19 ?_
    refine x_icmp_eq (tgt := 27) C dX7_isStanding_20 (by decide) ⟨by omega, by omega⟩ ⟨by omega, by omega⟩ (fun h4 => ?_) (fun h4 => ?_)
    · refine x_iconst C dX7_isStanding_27 ?_
      exact x_zret C hQ (by omega) dX7_isStanding_28 (⟨rfl, _, rfl, .inr ⟨rfl, fun t => by have t1 := t.1; have t2 := t.2; omega⟩⟩)
    · refine x_iconst C dX7_isStanding_23 ?_
      refine x_goto (tgt := 28) C dX7_isStanding_24 (by decide) ?_
      exact x_zret C hQ (by omega) dX7_isStanding_28 (⟨rfl, _, rfl, .inl ⟨rfl, by rw [← ev1]; omega, by rw [← ev3]; omega⟩⟩)
set_option maxHeartbeats 4000000 in
set_option maxRecDepth 100000 in
theorem xl_nxB98_7 {D : va_G} {ad : Nat → Nat} {cA : Nat → ClassId} {X : XT} {q : Int} (q0 : 0 ≤ q) (q1 : q ≤ 1) (hb : X.2.2 98 0 = some 7) (hH : HG vX X) {E : ET} (C : CX E (wX D ad cA) cX7_nextMan 4 RX7 (some .int) { frames := 1, cells := 0, slots := 0, locals := 22 }) (hQ : EQ E (wX D ad cA) (fun r X' => X' = X ∧ ∃ u : Int, r = some (.int (iI u)) ∧ NMT (X.1 7 4) (X.1 8) (X.1 99) (X.1 100 q.toNat) q u)) : ∀ (n : Nat) (i : Int) (l : Int), 7 - i < n → 0 ≤ i → i ≤ 6 → X.1 100 q.toNat < i → LST (X.1 7 4) (X.1 8) (X.1 99) q (-1) l → BHD (X.1 8) (X.1 99) q (X.1 100 q.toNat) i → Wx E (wX D ad cA) 4 (PX (wX D ad cA) X) 42 [(3, .int (iI (i))), (2, .int (iI (l))), (0, .ref 98), (1, .int (iI (q)))] [] := by
  intro n
  induction n with
  | zero => intro i l hn i0 i1 iw hl hw; exfalso; omega
  | succ n ih =>
    intro i l hn i0 i1 iw hl hw
    have hm : (0 : Int) ≤ (X.1 7 4) ∧ (X.1 7 4) ≤ 6 := hH.rF (k := 7) (i := 4) (p := (0, 6)) rfl rfl
    have lb := lst_b hl
    refine x_iload_n (i := 3) C dX7_nextMan_42 rfl rfl ?_
    refine x_aload_n (i := 0) C dX7_nextMan_43 rfl rfl ?_
    refine x_getRs (r := 7) C fkX_X7_18 (nlt rfl) rfl hb dX7_nextMan_44 ?_
    refine x_getI C fkX_X7_43 (nlt rfl) rfl dX7_nextMan_47 ?_
    refine x_gen (fun v1 ev1 => ?_)
    have qv1 : (0 : Int) ≤ v1 ∧ v1 ≤ (6 : Int) := by
      rw [ev1]
      exact hH.rF (k := 7) (i := 4) rfl rfl
    have mv1 : v1 = X.1 7 4 := ev1
    refine x_icmp_ge (tgt := 70) C dX7_nextMan_50 (by decide) ⟨by omega, by omega⟩ ⟨by omega, by omega⟩ (fun h2 => ?_) (fun h2 => ?_)
    · refine x_iload_n (i := 2) C dX7_nextMan_70 rfl rfl ?_
      exact x_iret C hQ dX7_nextMan_71 (⟨rfl, _, rfl, nmt_l hl hw (by omega)⟩)
    · refine x_aload_n (i := 0) C dX7_nextMan_53 rfl rfl ?_
      refine x_iload_n (i := 3) C dX7_nextMan_54 rfl rfl ?_
      refine x_iload_n (i := 1) C dX7_nextMan_55 rfl rfl ?_
      refine x_callV (As := [.int (iI (i)), .int (iI (q))]) C (by exact (xf_isSt98_7 (k := i) q0 q1 hb hH (by omega) (by omega))) ckX7_46 im_X7_isStanding se_X7_isStanding (nlt rfl) rfl rfl rfl rfl (nle rfl) (by exact ⟨nle rfl, nle rfl⟩) dX7_nextMan_56 ?_
      rintro _ Xv3 ⟨hxv3, v3, rfl, ev3⟩
      rw [hxv3]
      refine Wx_st (st' := [.int (iI (v3))]) rfl ?_
      refine x_if_eq (tgt := 64) C dX7_nextMan_59 (by decide) ⟨by omega, by omega⟩ (fun h4 => ?_) (fun h4 => ?_)
      · refine x_iinc (lv' := [(3, .int (iI (i + 1))), (2, .int (iI (l))), (0, .ref 98), (1, .int (iI (q)))]) C dX7_nextMan_64 rfl (nlt rfl) rfl ?_
        refine x_goto (tgt := 42) C dX7_nextMan_67 (by decide) ?_
        refine Wx_pick [3, 2, 0, 1] ?_
        refine Wx_lv (lv' := [(3, .int (iI (i + 1))), (2, .int (iI (l))), (0, .ref 98), (1, .int (iI (q)))]) rfl ?_
        exact ih _ _ (by omega) (by omega) (by omega) (by omega) hl (bhd_n (by omega) hw (ev3.elim (fun t => by exfalso; have := t.1; omega) (fun t => t.2)))
      · refine x_iload_n (i := 3) C dX7_nextMan_62 rfl rfl ?_
        exact x_iret C hQ dX7_nextMan_63 (⟨rfl, _, rfl, nmt_i (by omega) (by omega) (by omega) hw (ev3.elim (fun t => t.2) (fun t => by exfalso; have := t.1; omega))⟩)
set_option maxHeartbeats 4000000 in
set_option maxRecDepth 100000 in
theorem xl_nxA98_7 {D : va_G} {ad : Nat → Nat} {cA : Nat → ClassId} {X : XT} {q : Int} (q0 : 0 ≤ q) (q1 : q ≤ 1) (hb : X.2.2 98 0 = some 7) (hH : HG vX X) {E : ET} (C : CX E (wX D ad cA) cX7_nextMan 4 RX7 (some .int) { frames := 1, cells := 0, slots := 0, locals := 22 }) (hQ : EQ E (wX D ad cA) (fun r X' => X' = X ∧ ∃ u : Int, r = some (.int (iI u)) ∧ NMT (X.1 7 4) (X.1 8) (X.1 99) (X.1 100 q.toNat) q u)) : ∀ (n : Nat) (i : Int) (l : Int), i + 1 < n → -1 ≤ i → i < (X.1 7 4) → LST (X.1 7 4) (X.1 8) (X.1 99) q i l → Wx E (wX D ad cA) 4 (PX (wX D ad cA) X) 12 [(3, .int (iI (i))), (2, .int (iI (l))), (0, .ref 98), (1, .int (iI (q)))] [] := by
  intro n
  induction n with
  | zero => intro i l hn i0 i1 hl; exfalso; omega
  | succ n ih =>
    intro i l hn i0 i1 hl
    have hm : (0 : Int) ≤ (X.1 7 4) ∧ (X.1 7 4) ≤ 6 := hH.rF (k := 7) (i := 4) (p := (0, 6)) rfl rfl
    have lb := lst_b hl
    refine x_iload_n (i := 3) C dX7_nextMan_12 rfl rfl ?_
    refine x_if_lt (tgt := 33) C dX7_nextMan_13 (by decide) ⟨by omega, by omega⟩ (fun h1 => ?_) (fun h1 => ?_)
    · refine x_aload_n (i := 0) C dX7_nextMan_33 rfl rfl ?_
      refine x_getRs (r := 100) C fkX_X7_15 (nlt rfl) rfl (HG.rR hH (k := 98) (i := 4) rfl rfl) dX7_nextMan_34 ?_
      refine x_iload_n (i := 1) C dX7_nextMan_37 rfl rfl ?_
      refine x_iald C (nlt rfl) rfl rfl (nle rfl) (by omega) (by omega) dX7_nextMan_38 ?_
      refine x_gen (fun v2 ev2 => ?_)
      have qv2 : ((-1) : Int) ≤ v2 ∧ v2 ≤ (5 : Int) := by
        rw [ev2]
        exact hH.rA (k := 100) (n := 2) (p := ((-1), 5)) (nlt rfl) rfl (by decide +kernel) (by omega)
      refine x_iconst C dX7_nextMan_39 ?_
      refine x_iadd C dX7_nextMan_40 ?_
      refine x_gen (fun v3 ev3 => ?_)
      refine x_istore_n (i := 3) (lv' := [(3, .int (iI (v3))), (2, .int (iI (l))), (0, .ref 98), (1, .int (iI (q)))]) C dX7_nextMan_41 rfl (nlt rfl) rfl ?_
      refine Wx_pick [3, 2, 0, 1] ?_
      refine Wx_lv (lv' := [(3, .int (iI (v3))), (2, .int (iI (l))), (0, .ref 98), (1, .int (iI (q)))]) rfl ?_
      exact xl_nxB98_7 q0 q1 hb hH C hQ 8 _ _ (by omega) (by omega) (by omega) (by omega) (by rw [show i = -1 by omega] at hl; exact hl) (bhd_0 (by omega))
    · refine x_aload_n (i := 0) C dX7_nextMan_16 rfl rfl ?_
      refine x_iload_n (i := 3) C dX7_nextMan_17 rfl rfl ?_
      refine x_iload_n (i := 1) C dX7_nextMan_18 rfl rfl ?_
      refine x_callV (As := [.int (iI (i)), .int (iI (q))]) C (by exact (xf_isSt98_7 (k := i) q0 q1 hb hH (by omega) (by omega))) ckX7_46 im_X7_isStanding se_X7_isStanding (nlt rfl) rfl rfl rfl rfl (nle rfl) (by exact ⟨nle rfl, nle rfl⟩) dX7_nextMan_19 ?_
      rintro _ Xv4 ⟨hxv4, v4, rfl, ev4⟩
      rw [hxv4]
      refine Wx_st (st' := [.int (iI (v4))]) rfl ?_
      refine x_if_eq (tgt := 27) C dX7_nextMan_22 (by decide) ⟨by omega, by omega⟩ (fun h5 => ?_) (fun h5 => ?_)
      · refine x_iinc (lv' := [(3, .int (iI (i + (-1)))), (2, .int (iI (l))), (0, .ref 98), (1, .int (iI (q)))]) C dX7_nextMan_27 rfl (nlt rfl) rfl ?_
        refine x_goto (tgt := 12) C dX7_nextMan_30 (by decide) ?_
        refine Wx_pick [3, 2, 0, 1] ?_
        refine Wx_lv (lv' := [(3, .int (iI (i + (-1)))), (2, .int (iI (l))), (0, .ref 98), (1, .int (iI (q)))]) rfl ?_
        exact ih _ _ (by omega) (by omega) (by omega) (lst_n (by omega) hl (ev4.elim (fun t => by exfalso; have := t.1; omega) (fun t => t.2)))
      · refine x_iload_n (i := 3) C dX7_nextMan_25 rfl rfl ?_
        refine x_istore_n (i := 2) (lv' := [(2, .int (iI (i))), (3, .int (iI (i))), (0, .ref 98), (1, .int (iI (q)))]) C dX7_nextMan_26 rfl (nlt rfl) rfl ?_
        refine x_iinc (lv' := [(3, .int (iI (i + (-1)))), (2, .int (iI (i))), (0, .ref 98), (1, .int (iI (q)))]) C dX7_nextMan_27 rfl (nlt rfl) rfl ?_
        refine x_goto (tgt := 12) C dX7_nextMan_30 (by decide) ?_
        refine Wx_pick [3, 2, 0, 1] ?_
        refine Wx_lv (lv' := [(3, .int (iI (i + (-1)))), (2, .int (iI (i))), (0, .ref 98), (1, .int (iI (q)))]) rfl ?_
        exact ih _ _ (by omega) (by omega) (by omega) (lst_y (by omega) i1 hl (ev4.elim (fun t => t.2) (fun t => by exfalso; have := t.1; omega)))
set_option maxHeartbeats 4000000 in
set_option maxRecDepth 100000 in
theorem xf_nextMan98_7 {D : va_G} {ad : Nat → Nat} {cA : Nat → ClassId} {X : XT} {q : Int} (q0 : 0 ≤ q) (q1 : q ≤ 1) (hb : X.2.2 98 0 = some 7) (hH : HG vX X) : MetX (wX D ad cA) yX7_nextMan cX7_nextMan 4 (some .int) 1 22 [.ref 98, .int (iI (q))] X (fun r X' => X' = X ∧ ∃ u : Int, r = some (.int (iI u)) ∧ NMT (X.1 7 4) (X.1 8) (X.1 99) (X.1 100 q.toNat) q u) := by
  have hm : (0 : Int) ≤ (X.1 7 4) ∧ (X.1 7 4) ≤ 6 := hH.rF (k := 7) (i := 4) (p := (0, 6)) rfl rfl
  refine MetX.mk (own := RX7) (by decide +kernel) rfl (nle rfl) (fun E C hQ => ?_)
  refine Wx_lv (lv' := [(0, .ref 98), (1, .int (iI (q)))]) rfl ?_
  refine x_iconst C dX7_nextMan_0 ?_
  refine x_istore_n (i := 2) (lv' := [(2, .int (iI ((-1)))), (0, .ref 98), (1, .int (iI (q)))]) C dX7_nextMan_1 rfl (nlt rfl) rfl ?_
  refine x_aload_n (i := 0) C dX7_nextMan_2 rfl rfl ?_
  refine x_getRs (r := 7) C fkX_X7_18 (nlt rfl) rfl hb dX7_nextMan_3 ?_
  refine x_getI C fkX_X7_43 (nlt rfl) rfl dX7_nextMan_6 ?_
  refine x_gen (fun v1 ev1 => ?_)
  have qv1 : (0 : Int) ≤ v1 ∧ v1 ≤ (6 : Int) := by
    rw [ev1]
    exact hH.rF (k := 7) (i := 4) rfl rfl
  have mv1 : v1 = X.1 7 4 := ev1
  refine x_iconst C dX7_nextMan_9 ?_
  refine x_isub C dX7_nextMan_10 ?_
  refine x_gen (fun v2 ev2 => ?_)
  refine x_istore_n (i := 3) (lv' := [(3, .int (iI (v2))), (2, .int (iI ((-1)))), (0, .ref 98), (1, .int (iI (q)))]) C dX7_nextMan_11 rfl (nlt rfl) rfl ?_
  refine Wx_pick [3, 2, 0, 1] ?_
  refine Wx_lv (lv' := [(3, .int (iI (v2))), (2, .int (iI ((-1)))), (0, .ref 98), (1, .int (iI (q)))]) rfl ?_
  exact xl_nxA98_7 q0 q1 hb hH C hQ 8 _ (-1) (by omega) (by omega) (by omega) (lst_0 (by omega))
set_option maxRecDepth 10000 in
theorem t_X_224 {D : va_G} {ad : Nat → Nat} {cA : Nat → ClassId} : CTR mtX vX gX (wX D ad cA) k_X_224 := by
  intro g X hpre
  obtain ⟨h00, hei, hel, hdl, hH, hE⟩ := hpre
  have h0 : (0 : Int) ≤ g.1 0 ∧ g.1 0 ≤ (0 : Int) := hei 0 _ rfl
  have h1 : (0 : Int) ≤ g.1 1 ∧ g.1 1 ≤ (1 : Int) := hei 1 _ rfl
  have h2 : ((-2147483648) : Int) ≤ g.1 2 ∧ g.1 2 ≤ (2147483647 : Int) := hei 2 _ rfl
  have h3 : ((-2147483648) : Int) ≤ g.1 3 ∧ g.1 3 ≤ (2147483647 : Int) := hei 3 _ rfl
  have h4 : ((-2147483648) : Int) ≤ g.1 4 ∧ g.1 4 ≤ (2147483647 : Int) := hei 4 _ rfl
  have h5 : ((-2147483648) : Int) ≤ g.1 5 ∧ g.1 5 ≤ (2147483647 : Int) := hei 5 _ rfl
  have h6 : ((-2147483648) : Int) ≤ g.1 6 ∧ g.1 6 ≤ (2147483647 : Int) := hei 6 _ rfl
  have h7 : ((-2147483648) : Int) ≤ g.1 7 ∧ g.1 7 ≤ (2147483647 : Int) := hei 7 _ rfl
  have hb : X.2.2 98 0 = some 7 := hdl ((98, 0), (2, 7, 0)) (.head _)
  have f0 : X.1 8 0 = g.1 2 + 0 := (hdl ((8, 0), (0, 2, 0)) (.tail _ (.head _)))
  have f1 : X.1 8 1 = g.1 3 + 0 := (hdl ((8, 1), (0, 3, 0)) (.tail _ (.tail _ (.head _))))
  have f2 : X.1 8 2 = g.1 4 + 0 := (hdl ((8, 2), (0, 4, 0)) (.tail _ (.tail _ (.tail _ (.head _)))))
  have f3 : X.1 8 3 = g.1 5 + 0 := (hdl ((8, 3), (0, 5, 0)) (.tail _ (.tail _ (.tail _ (.tail _ (.head _))))))
  have f4 : X.1 8 4 = g.1 6 + 0 := (hdl ((8, 4), (0, 6, 0)) (.tail _ (.tail _ (.tail _ (.tail _ (.tail _ (.head _)))))))
  have f5 : X.1 8 5 = g.1 7 + 0 := (hdl ((8, 5), (0, 7, 0)) (.tail _ (.tail _ (.tail _ (.tail _ (.tail _ (.tail _ (.head _))))))))
  have hm : (0 : Int) ≤ (X.1 7 4) ∧ (X.1 7 4) ≤ 6 := hH.rF (k := 7) (i := 4) (p := (0, 6)) rfl rfl
  refine MetX.imp (fun r X1 hp => ?_) (xf_nextMan98_7 (X := X) (q := g.1 1 + 0) (by omega) (by omega) hb hH)
  obtain ⟨rfl, u, rfl, hu⟩ := hp
  rcases nmt_c hu with rfl | ⟨u0, u1, u2⟩
  · exact (altM_mk 0 [(-1)] rfl (ei_cons ⟨by show (0 : Int) ≤ g.1 0; omega, by show g.1 0 ≤ (0 : Int); omega⟩ (ei_cons ⟨by show (0 : Int) ≤ g.1 1; omega, by show g.1 1 ≤ (1 : Int); omega⟩ (ei_cons ⟨by show ((-2147483648) : Int) ≤ g.1 2; omega, by show g.1 2 ≤ (2147483647 : Int); omega⟩ (ei_cons ⟨by show ((-2147483648) : Int) ≤ g.1 3; omega, by show g.1 3 ≤ (2147483647 : Int); omega⟩ (ei_cons ⟨by show ((-2147483648) : Int) ≤ g.1 4; omega, by show g.1 4 ≤ (2147483647 : Int); omega⟩ (ei_cons ⟨by show ((-2147483648) : Int) ≤ g.1 5; omega, by show g.1 5 ≤ (2147483647 : Int); omega⟩ (ei_cons ⟨by show ((-2147483648) : Int) ≤ g.1 6; omega, by show g.1 6 ≤ (2147483647 : Int); omega⟩ (ei_cons ⟨by show ((-2147483648) : Int) ≤ g.1 7; omega, by show g.1 7 ≤ (2147483647 : Int); omega⟩ (ei_cons ⟨by show ((-1) : Int) ≤ (-1); omega, by show (-1) ≤ ((-1) : Int); omega⟩ ei_nil))))))))) el_nil (by rfl) dl_nil gd_nil hH hE FR.rf)
  rcases (show u = 0 ∨ u = 1 ∨ u = 2 ∨ u = 3 ∨ u = 4 ∨ u = 5 by omega) with rfl | rfl | rfl | rfl | rfl | rfl
  · have z : X1.1 8 0 = g.1 1 + 0 := u2
    exact (altM_mk 1 [0] rfl (ei_cons ⟨by show (0 : Int) ≤ g.1 0; omega, by show g.1 0 ≤ (0 : Int); omega⟩ (ei_cons ⟨by show (0 : Int) ≤ g.1 1; omega, by show g.1 1 ≤ (1 : Int); omega⟩ (ei_cons ⟨by show (0 : Int) ≤ g.1 2; omega, by show g.1 2 ≤ (1 : Int); omega⟩ (ei_cons ⟨by show ((-2147483648) : Int) ≤ g.1 3; omega, by show g.1 3 ≤ (2147483647 : Int); omega⟩ (ei_cons ⟨by show ((-2147483648) : Int) ≤ g.1 4; omega, by show g.1 4 ≤ (2147483647 : Int); omega⟩ (ei_cons ⟨by show ((-2147483648) : Int) ≤ g.1 5; omega, by show g.1 5 ≤ (2147483647 : Int); omega⟩ (ei_cons ⟨by show ((-2147483648) : Int) ≤ g.1 6; omega, by show g.1 6 ≤ (2147483647 : Int); omega⟩ (ei_cons ⟨by show ((-2147483648) : Int) ≤ g.1 7; omega, by show g.1 7 ≤ (2147483647 : Int); omega⟩ (ei_cons ⟨by show (0 : Int) ≤ 0; omega, by show 0 ≤ (0 : Int); omega⟩ ei_nil))))))))) el_nil (by rfl) dl_nil gd_nil hH hE FR.rf)
  · have z : X1.1 8 1 = g.1 1 + 0 := u2
    exact (altM_mk 2 [1] rfl (ei_cons ⟨by show (0 : Int) ≤ g.1 0; omega, by show g.1 0 ≤ (0 : Int); omega⟩ (ei_cons ⟨by show (0 : Int) ≤ g.1 1; omega, by show g.1 1 ≤ (1 : Int); omega⟩ (ei_cons ⟨by show ((-2147483648) : Int) ≤ g.1 2; omega, by show g.1 2 ≤ (2147483647 : Int); omega⟩ (ei_cons ⟨by show (0 : Int) ≤ g.1 3; omega, by show g.1 3 ≤ (1 : Int); omega⟩ (ei_cons ⟨by show ((-2147483648) : Int) ≤ g.1 4; omega, by show g.1 4 ≤ (2147483647 : Int); omega⟩ (ei_cons ⟨by show ((-2147483648) : Int) ≤ g.1 5; omega, by show g.1 5 ≤ (2147483647 : Int); omega⟩ (ei_cons ⟨by show ((-2147483648) : Int) ≤ g.1 6; omega, by show g.1 6 ≤ (2147483647 : Int); omega⟩ (ei_cons ⟨by show ((-2147483648) : Int) ≤ g.1 7; omega, by show g.1 7 ≤ (2147483647 : Int); omega⟩ (ei_cons ⟨by show (1 : Int) ≤ 1; omega, by show 1 ≤ (1 : Int); omega⟩ ei_nil))))))))) el_nil (by rfl) dl_nil gd_nil hH hE FR.rf)
  · have z : X1.1 8 2 = g.1 1 + 0 := u2
    exact (altM_mk 3 [2] rfl (ei_cons ⟨by show (0 : Int) ≤ g.1 0; omega, by show g.1 0 ≤ (0 : Int); omega⟩ (ei_cons ⟨by show (0 : Int) ≤ g.1 1; omega, by show g.1 1 ≤ (1 : Int); omega⟩ (ei_cons ⟨by show ((-2147483648) : Int) ≤ g.1 2; omega, by show g.1 2 ≤ (2147483647 : Int); omega⟩ (ei_cons ⟨by show ((-2147483648) : Int) ≤ g.1 3; omega, by show g.1 3 ≤ (2147483647 : Int); omega⟩ (ei_cons ⟨by show (0 : Int) ≤ g.1 4; omega, by show g.1 4 ≤ (1 : Int); omega⟩ (ei_cons ⟨by show ((-2147483648) : Int) ≤ g.1 5; omega, by show g.1 5 ≤ (2147483647 : Int); omega⟩ (ei_cons ⟨by show ((-2147483648) : Int) ≤ g.1 6; omega, by show g.1 6 ≤ (2147483647 : Int); omega⟩ (ei_cons ⟨by show ((-2147483648) : Int) ≤ g.1 7; omega, by show g.1 7 ≤ (2147483647 : Int); omega⟩ (ei_cons ⟨by show (2 : Int) ≤ 2; omega, by show 2 ≤ (2 : Int); omega⟩ ei_nil))))))))) el_nil (by rfl) dl_nil gd_nil hH hE FR.rf)
  · have z : X1.1 8 3 = g.1 1 + 0 := u2
    exact (altM_mk 4 [3] rfl (ei_cons ⟨by show (0 : Int) ≤ g.1 0; omega, by show g.1 0 ≤ (0 : Int); omega⟩ (ei_cons ⟨by show (0 : Int) ≤ g.1 1; omega, by show g.1 1 ≤ (1 : Int); omega⟩ (ei_cons ⟨by show ((-2147483648) : Int) ≤ g.1 2; omega, by show g.1 2 ≤ (2147483647 : Int); omega⟩ (ei_cons ⟨by show ((-2147483648) : Int) ≤ g.1 3; omega, by show g.1 3 ≤ (2147483647 : Int); omega⟩ (ei_cons ⟨by show ((-2147483648) : Int) ≤ g.1 4; omega, by show g.1 4 ≤ (2147483647 : Int); omega⟩ (ei_cons ⟨by show (0 : Int) ≤ g.1 5; omega, by show g.1 5 ≤ (1 : Int); omega⟩ (ei_cons ⟨by show ((-2147483648) : Int) ≤ g.1 6; omega, by show g.1 6 ≤ (2147483647 : Int); omega⟩ (ei_cons ⟨by show ((-2147483648) : Int) ≤ g.1 7; omega, by show g.1 7 ≤ (2147483647 : Int); omega⟩ (ei_cons ⟨by show (3 : Int) ≤ 3; omega, by show 3 ≤ (3 : Int); omega⟩ ei_nil))))))))) el_nil (by rfl) dl_nil gd_nil hH hE FR.rf)
  · have z : X1.1 8 4 = g.1 1 + 0 := u2
    exact (altM_mk 5 [4] rfl (ei_cons ⟨by show (0 : Int) ≤ g.1 0; omega, by show g.1 0 ≤ (0 : Int); omega⟩ (ei_cons ⟨by show (0 : Int) ≤ g.1 1; omega, by show g.1 1 ≤ (1 : Int); omega⟩ (ei_cons ⟨by show ((-2147483648) : Int) ≤ g.1 2; omega, by show g.1 2 ≤ (2147483647 : Int); omega⟩ (ei_cons ⟨by show ((-2147483648) : Int) ≤ g.1 3; omega, by show g.1 3 ≤ (2147483647 : Int); omega⟩ (ei_cons ⟨by show ((-2147483648) : Int) ≤ g.1 4; omega, by show g.1 4 ≤ (2147483647 : Int); omega⟩ (ei_cons ⟨by show ((-2147483648) : Int) ≤ g.1 5; omega, by show g.1 5 ≤ (2147483647 : Int); omega⟩ (ei_cons ⟨by show (0 : Int) ≤ g.1 6; omega, by show g.1 6 ≤ (1 : Int); omega⟩ (ei_cons ⟨by show ((-2147483648) : Int) ≤ g.1 7; omega, by show g.1 7 ≤ (2147483647 : Int); omega⟩ (ei_cons ⟨by show (4 : Int) ≤ 4; omega, by show 4 ≤ (4 : Int); omega⟩ ei_nil))))))))) el_nil (by rfl) dl_nil gd_nil hH hE FR.rf)
  · have z : X1.1 8 5 = g.1 1 + 0 := u2
    exact (altM_mk 6 [5] rfl (ei_cons ⟨by show (0 : Int) ≤ g.1 0; omega, by show g.1 0 ≤ (0 : Int); omega⟩ (ei_cons ⟨by show (0 : Int) ≤ g.1 1; omega, by show g.1 1 ≤ (1 : Int); omega⟩ (ei_cons ⟨by show ((-2147483648) : Int) ≤ g.1 2; omega, by show g.1 2 ≤ (2147483647 : Int); omega⟩ (ei_cons ⟨by show ((-2147483648) : Int) ≤ g.1 3; omega, by show g.1 3 ≤ (2147483647 : Int); omega⟩ (ei_cons ⟨by show ((-2147483648) : Int) ≤ g.1 4; omega, by show g.1 4 ≤ (2147483647 : Int); omega⟩ (ei_cons ⟨by show ((-2147483648) : Int) ≤ g.1 5; omega, by show g.1 5 ≤ (2147483647 : Int); omega⟩ (ei_cons ⟨by show ((-2147483648) : Int) ≤ g.1 6; omega, by show g.1 6 ≤ (2147483647 : Int); omega⟩ (ei_cons ⟨by show (0 : Int) ≤ g.1 7; omega, by show g.1 7 ≤ (1 : Int); omega⟩ (ei_cons ⟨by show (5 : Int) ≤ 5; omega, by show 5 ≤ (5 : Int); omega⟩ ei_nil))))))))) el_nil (by rfl) dl_nil gd_nil hH hE FR.rf)
set_option maxHeartbeats 4000000 in
set_option maxRecDepth 100000 in
theorem xf_isSt95_7 {D : va_G} {ad : Nat → Nat} {cA : Nat → ClassId} {X : XT} {q k : Int} (q0 : 0 ≤ q) (q1 : q ≤ 1) (hb : X.2.2 95 0 = some 7) (hH : HG vX X) (k0 : 0 ≤ k) (k5 : k ≤ 5) : MetX (wX D ad cA) yX7_isStanding cX7_isStanding 3 (some .boolean) 0 0 [.ref 95, .int (iI (k)), .int (iI (q))] X (fun r X' => X' = X ∧ ∃ u : Int, r = some (.int (iI u)) ∧ ((u = 1 ∧ SNT (X.1 8) (X.1 96) q k.toNat) ∨ (u = 0 ∧ ¬ SNT (X.1 8) (X.1 96) q k.toNat))) := by
  refine MetX.mk (own := RX7) (by decide +kernel) rfl (nle rfl) (fun E C hQ => ?_)
  refine Wx_lv (lv' := [(0, .ref 95), (1, .int (iI (k))), (2, .int (iI (q)))]) rfl ?_
  refine x_aload_n (i := 0) C dX7_isStanding_0 rfl rfl ?_
  refine x_getRs (r := 7) C fkX_X7_18 (nlt rfl) rfl hb dX7_isStanding_1 ?_
  refine x_getRs (r := 8) C fkX_X7_40 (nlt rfl) rfl (HG.rR hH (k := 7) (i := 5) rfl rfl) dX7_isStanding_4 ?_
  refine x_iload_n (i := 1) C dX7_isStanding_7 rfl rfl ?_
  refine x_iald C (nlt rfl) rfl rfl (nle rfl) (by omega) (by omega) dX7_isStanding_8 ?_
  refine x_gen (fun v1 ev1 => ?_)
  have qv1 : ((-2147483648) : Int) ≤ v1 ∧ v1 ≤ (2147483647 : Int) := by
    rw [ev1]
    exact hH.rA (k := 8) (n := 6) (p := ((-2147483648), 2147483647)) (nlt rfl) rfl (by decide +kernel) (by omega)
  refine x_iload_n (i := 2) C dX7_isStanding_9 rfl rfl ?_
  refine x_icmp_ne (tgt := 27) C dX7_isStanding_10 (by decide) ⟨by omega, by omega⟩ ⟨by omega, by omega⟩ (fun h2 => ?_) (fun h2 => ?_)
  · refine x_iconst C dX7_isStanding_27 ?_
    exact x_zret C hQ (by omega) dX7_isStanding_28 (⟨rfl, _, rfl, .inr ⟨rfl, fun t => by have t1 := t.1; have t2 := t.2; omega⟩⟩)
  · refine x_aload_n (i := 0) C dX7_isStanding_13 rfl rfl ?_
    refine x_getRs (r := 96) C fkX_X7_9 (nlt rfl) rfl (HG.rR hH (k := 95) (i := 3) rfl rfl) dX7_isStanding_14 ?_
    refine x_iload_n (i := 1) C dX7_isStanding_17 rfl rfl ?_
    refine x_iald C (nlt rfl) rfl rfl (nle rfl) (by omega) (by omega) dX7_isStanding_18 ?_
    refine x_gen (fun v3 ev3 => ?_)
    have qv3 : ((-2147483648) : Int) ≤ v3 ∧ v3 ≤ (2147483647 : Int) := by
      rw [ev3]
      exact hH.rA (k := 96) (n := 6) (p := ((-2147483648), 2147483647)) (nlt rfl) rfl (by decide +kernel) (by omega)
    refine x_iconst C dX7_isStanding_19 ?_
    refine x_icmp_eq (tgt := 27) C dX7_isStanding_20 (by decide) ⟨by omega, by omega⟩ ⟨by omega, by omega⟩ (fun h4 => ?_) (fun h4 => ?_)
    · refine x_iconst C dX7_isStanding_27 ?_
      exact x_zret C hQ (by omega) dX7_isStanding_28 (⟨rfl, _, rfl, .inr ⟨rfl, fun t => by have t1 := t.1; have t2 := t.2; omega⟩⟩)
    · refine x_iconst C dX7_isStanding_23 ?_
      refine x_goto (tgt := 28) C dX7_isStanding_24 (by decide) ?_
      exact x_zret C hQ (by omega) dX7_isStanding_28 (⟨rfl, _, rfl, .inl ⟨rfl, by rw [← ev1]; omega, by rw [← ev3]; omega⟩⟩)
set_option maxHeartbeats 4000000 in
set_option maxRecDepth 100000 in
theorem xl_nxB95_7 {D : va_G} {ad : Nat → Nat} {cA : Nat → ClassId} {X : XT} {q : Int} (q0 : 0 ≤ q) (q1 : q ≤ 1) (hb : X.2.2 95 0 = some 7) (hH : HG vX X) {E : ET} (C : CX E (wX D ad cA) cX7_nextMan 4 RX7 (some .int) { frames := 1, cells := 0, slots := 0, locals := 22 }) (hQ : EQ E (wX D ad cA) (fun r X' => X' = X ∧ ∃ u : Int, r = some (.int (iI u)) ∧ NMT (X.1 7 4) (X.1 8) (X.1 96) (X.1 97 q.toNat) q u)) : ∀ (n : Nat) (i : Int) (l : Int), 7 - i < n → 0 ≤ i → i ≤ 6 → X.1 97 q.toNat < i → LST (X.1 7 4) (X.1 8) (X.1 96) q (-1) l → BHD (X.1 8) (X.1 96) q (X.1 97 q.toNat) i → Wx E (wX D ad cA) 4 (PX (wX D ad cA) X) 42 [(3, .int (iI (i))), (2, .int (iI (l))), (0, .ref 95), (1, .int (iI (q)))] [] := by
  intro n
  induction n with
  | zero => intro i l hn i0 i1 iw hl hw; exfalso; omega
  | succ n ih =>
    intro i l hn i0 i1 iw hl hw
    have hm : (0 : Int) ≤ (X.1 7 4) ∧ (X.1 7 4) ≤ 6 := hH.rF (k := 7) (i := 4) (p := (0, 6)) rfl rfl
    have lb := lst_b hl
    refine x_iload_n (i := 3) C dX7_nextMan_42 rfl rfl ?_
    refine x_aload_n (i := 0) C dX7_nextMan_43 rfl rfl ?_
    refine x_getRs (r := 7) C fkX_X7_18 (nlt rfl) rfl hb dX7_nextMan_44 ?_
    refine x_getI C fkX_X7_43 (nlt rfl) rfl dX7_nextMan_47 ?_
    refine x_gen (fun v1 ev1 => ?_)
    have qv1 : (0 : Int) ≤ v1 ∧ v1 ≤ (6 : Int) := by
      rw [ev1]
      exact hH.rF (k := 7) (i := 4) rfl rfl
    have mv1 : v1 = X.1 7 4 := ev1
    refine x_icmp_ge (tgt := 70) C dX7_nextMan_50 (by decide) ⟨by omega, by omega⟩ ⟨by omega, by omega⟩ (fun h2 => ?_) (fun h2 => ?_)
    · refine x_iload_n (i := 2) C dX7_nextMan_70 rfl rfl ?_
      exact x_iret C hQ dX7_nextMan_71 (⟨rfl, _, rfl, nmt_l hl hw (by omega)⟩)
    · refine x_aload_n (i := 0) C dX7_nextMan_53 rfl rfl ?_
      refine x_iload_n (i := 3) C dX7_nextMan_54 rfl rfl ?_
      refine x_iload_n (i := 1) C dX7_nextMan_55 rfl rfl ?_
      refine x_callV (As := [.int (iI (i)), .int (iI (q))]) C (by exact (xf_isSt95_7 (k := i) q0 q1 hb hH (by omega) (by omega))) ckX7_46 im_X7_isStanding se_X7_isStanding (nlt rfl) rfl rfl rfl rfl (nle rfl) (by exact ⟨nle rfl, nle rfl⟩) dX7_nextMan_56 ?_
      rintro _ Xv3 ⟨hxv3, v3, rfl, ev3⟩
      rw [hxv3]
      refine Wx_st (st' := [.int (iI (v3))]) rfl ?_
      refine x_if_eq (tgt := 64) C dX7_nextMan_59 (by decide) ⟨by omega, by omega⟩ (fun h4 => ?_) (fun h4 => ?_)
      · refine x_iinc (lv' := [(3, .int (iI (i + 1))), (2, .int (iI (l))), (0, .ref 95), (1, .int (iI (q)))]) C dX7_nextMan_64 rfl (nlt rfl) rfl ?_
        refine x_goto (tgt := 42) C dX7_nextMan_67 (by decide) ?_
        refine Wx_pick [3, 2, 0, 1] ?_
        refine Wx_lv (lv' := [(3, .int (iI (i + 1))), (2, .int (iI (l))), (0, .ref 95), (1, .int (iI (q)))]) rfl ?_
        exact ih _ _ (by omega) (by omega) (by omega) (by omega) hl (bhd_n (by omega) hw (ev3.elim (fun t => by exfalso; have := t.1; omega) (fun t => t.2)))
      · refine x_iload_n (i := 3) C dX7_nextMan_62 rfl rfl ?_
        exact x_iret C hQ dX7_nextMan_63 (⟨rfl, _, rfl, nmt_i (by omega) (by omega) (by omega) hw (ev3.elim (fun t => t.2) (fun t => by exfalso; have := t.1; omega))⟩)
set_option maxHeartbeats 4000000 in
set_option maxRecDepth 100000 in
theorem xl_nxA95_7 {D : va_G} {ad : Nat → Nat} {cA : Nat → ClassId} {X : XT} {q : Int} (q0 : 0 ≤ q) (q1 : q ≤ 1) (hb : X.2.2 95 0 = some 7) (hH : HG vX X) {E : ET} (C : CX E (wX D ad cA) cX7_nextMan 4 RX7 (some .int) { frames := 1, cells := 0, slots := 0, locals := 22 }) (hQ : EQ E (wX D ad cA) (fun r X' => X' = X ∧ ∃ u : Int, r = some (.int (iI u)) ∧ NMT (X.1 7 4) (X.1 8) (X.1 96) (X.1 97 q.toNat) q u)) : ∀ (n : Nat) (i : Int) (l : Int), i + 1 < n → -1 ≤ i → i < (X.1 7 4) → LST (X.1 7 4) (X.1 8) (X.1 96) q i l → Wx E (wX D ad cA) 4 (PX (wX D ad cA) X) 12 [(3, .int (iI (i))), (2, .int (iI (l))), (0, .ref 95), (1, .int (iI (q)))] [] := by
  intro n
  induction n with
  | zero => intro i l hn i0 i1 hl; exfalso; omega
  | succ n ih =>
    intro i l hn i0 i1 hl
    have hm : (0 : Int) ≤ (X.1 7 4) ∧ (X.1 7 4) ≤ 6 := hH.rF (k := 7) (i := 4) (p := (0, 6)) rfl rfl
    have lb := lst_b hl
    refine x_iload_n (i := 3) C dX7_nextMan_12 rfl rfl ?_
    refine x_if_lt (tgt := 33) C dX7_nextMan_13 (by decide) ⟨by omega, by omega⟩ (fun h1 => ?_) (fun h1 => ?_)
    · refine x_aload_n (i := 0) C dX7_nextMan_33 rfl rfl ?_
      refine x_getRs (r := 97) C fkX_X7_15 (nlt rfl) rfl (HG.rR hH (k := 95) (i := 4) rfl rfl) dX7_nextMan_34 ?_
      refine x_iload_n (i := 1) C dX7_nextMan_37 rfl rfl ?_
      refine x_iald C (nlt rfl) rfl rfl (nle rfl) (by omega) (by omega) dX7_nextMan_38 ?_
      refine x_gen (fun v2 ev2 => ?_)
      have qv2 : ((-1) : Int) ≤ v2 ∧ v2 ≤ (5 : Int) := by
        rw [ev2]
        exact hH.rA (k := 97) (n := 2) (p := ((-1), 5)) (nlt rfl) rfl (by decide +kernel) (by omega)
      refine x_iconst C dX7_nextMan_39 ?_
      refine x_iadd C dX7_nextMan_40 ?_
      refine x_gen (fun v3 ev3 => ?_)
      refine x_istore_n (i := 3) (lv' := [(3, .int (iI (v3))), (2, .int (iI (l))), (0, .ref 95), (1, .int (iI (q)))]) C dX7_nextMan_41 rfl (nlt rfl) rfl ?_
      refine Wx_pick [3, 2, 0, 1] ?_
      refine Wx_lv (lv' := [(3, .int (iI (v3))), (2, .int (iI (l))), (0, .ref 95), (1, .int (iI (q)))]) rfl ?_
      exact xl_nxB95_7 q0 q1 hb hH C hQ 8 _ _ (by omega) (by omega) (by omega) (by omega) (by rw [show i = -1 by omega] at hl; exact hl) (bhd_0 (by omega))
    · refine x_aload_n (i := 0) C dX7_nextMan_16 rfl rfl ?_
      refine x_iload_n (i := 3) C dX7_nextMan_17 rfl rfl ?_
      refine x_iload_n (i := 1) C dX7_nextMan_18 rfl rfl ?_
      refine x_callV (As := [.int (iI (i)), .int (iI (q))]) C (by exact (xf_isSt95_7 (k := i) q0 q1 hb hH (by omega) (by omega))) ckX7_46 im_X7_isStanding se_X7_isStanding (nlt rfl) rfl rfl rfl rfl (nle rfl) (by exact ⟨nle rfl, nle rfl⟩) dX7_nextMan_19 ?_
      rintro _ Xv4 ⟨hxv4, v4, rfl, ev4⟩
      rw [hxv4]
      refine Wx_st (st' := [.int (iI (v4))]) rfl ?_
      refine x_if_eq (tgt := 27) C dX7_nextMan_22 (by decide) ⟨by omega, by omega⟩ (fun h5 => ?_) (fun h5 => ?_)
      · refine x_iinc (lv' := [(3, .int (iI (i + (-1)))), (2, .int (iI (l))), (0, .ref 95), (1, .int (iI (q)))]) C dX7_nextMan_27 rfl (nlt rfl) rfl ?_
        refine x_goto (tgt := 12) C dX7_nextMan_30 (by decide) ?_
        refine Wx_pick [3, 2, 0, 1] ?_
        refine Wx_lv (lv' := [(3, .int (iI (i + (-1)))), (2, .int (iI (l))), (0, .ref 95), (1, .int (iI (q)))]) rfl ?_
        exact ih _ _ (by omega) (by omega) (by omega) (lst_n (by omega) hl (ev4.elim (fun t => by exfalso; have := t.1; omega) (fun t => t.2)))
      · refine x_iload_n (i := 3) C dX7_nextMan_25 rfl rfl ?_
        refine x_istore_n (i := 2) (lv' := [(2, .int (iI (i))), (3, .int (iI (i))), (0, .ref 95), (1, .int (iI (q)))]) C dX7_nextMan_26 rfl (nlt rfl) rfl ?_
        refine x_iinc (lv' := [(3, .int (iI (i + (-1)))), (2, .int (iI (i))), (0, .ref 95), (1, .int (iI (q)))]) C dX7_nextMan_27 rfl (nlt rfl) rfl ?_
        refine x_goto (tgt := 12) C dX7_nextMan_30 (by decide) ?_
        refine Wx_pick [3, 2, 0, 1] ?_
        refine Wx_lv (lv' := [(3, .int (iI (i + (-1)))), (2, .int (iI (i))), (0, .ref 95), (1, .int (iI (q)))]) rfl ?_
        exact ih _ _ (by omega) (by omega) (by omega) (lst_y (by omega) i1 hl (ev4.elim (fun t => t.2) (fun t => by exfalso; have := t.1; omega)))
set_option maxHeartbeats 4000000 in
set_option maxRecDepth 100000 in
theorem xf_nextMan95_7 {D : va_G} {ad : Nat → Nat} {cA : Nat → ClassId} {X : XT} {q : Int} (q0 : 0 ≤ q) (q1 : q ≤ 1) (hb : X.2.2 95 0 = some 7) (hH : HG vX X) : MetX (wX D ad cA) yX7_nextMan cX7_nextMan 4 (some .int) 1 22 [.ref 95, .int (iI (q))] X (fun r X' => X' = X ∧ ∃ u : Int, r = some (.int (iI u)) ∧ NMT (X.1 7 4) (X.1 8) (X.1 96) (X.1 97 q.toNat) q u) := by
  have hm : (0 : Int) ≤ (X.1 7 4) ∧ (X.1 7 4) ≤ 6 := hH.rF (k := 7) (i := 4) (p := (0, 6)) rfl rfl
  refine MetX.mk (own := RX7) (by decide +kernel) rfl (nle rfl) (fun E C hQ => ?_)
  refine Wx_lv (lv' := [(0, .ref 95), (1, .int (iI (q)))]) rfl ?_
  refine x_iconst C dX7_nextMan_0 ?_
  refine x_istore_n (i := 2) (lv' := [(2, .int (iI ((-1)))), (0, .ref 95), (1, .int (iI (q)))]) C dX7_nextMan_1 rfl (nlt rfl) rfl ?_
  refine x_aload_n (i := 0) C dX7_nextMan_2 rfl rfl ?_
  refine x_getRs (r := 7) C fkX_X7_18 (nlt rfl) rfl hb dX7_nextMan_3 ?_
  refine x_getI C fkX_X7_43 (nlt rfl) rfl dX7_nextMan_6 ?_
  refine x_gen (fun v1 ev1 => ?_)
  have qv1 : (0 : Int) ≤ v1 ∧ v1 ≤ (6 : Int) := by
    rw [ev1]
    exact hH.rF (k := 7) (i := 4) rfl rfl
  have mv1 : v1 = X.1 7 4 := ev1
  refine x_iconst C dX7_nextMan_9 ?_
  refine x_isub C dX7_nextMan_10 ?_
  refine x_gen (fun v2 ev2 => ?_)
  refine x_istore_n (i := 3) (lv' := [(3, .int (iI (v2))), (2, .int (iI ((-1)))), (0, .ref 95), (1, .int (iI (q)))]) C dX7_nextMan_11 rfl (nlt rfl) rfl ?_
  refine Wx_pick [3, 2, 0, 1] ?_
  refine Wx_lv (lv' := [(3, .int (iI (v2))), (2, .int (iI ((-1)))), (0, .ref 95), (1, .int (iI (q)))]) rfl ?_
  exact xl_nxA95_7 q0 q1 hb hH C hQ 8 _ (-1) (by omega) (by omega) (by omega) (lst_0 (by omega))
set_option maxRecDepth 10000 in
theorem t_X_239 {D : va_G} {ad : Nat → Nat} {cA : Nat → ClassId} : CTR mtX vX gX (wX D ad cA) k_X_239 := by
  intro g X hpre
  obtain ⟨h00, hei, hel, hdl, hH, hE⟩ := hpre
  have h0 : (0 : Int) ≤ g.1 0 ∧ g.1 0 ≤ (0 : Int) := hei 0 _ rfl
  have h1 : (0 : Int) ≤ g.1 1 ∧ g.1 1 ≤ (1 : Int) := hei 1 _ rfl
  have h2 : ((-2147483648) : Int) ≤ g.1 2 ∧ g.1 2 ≤ (2147483647 : Int) := hei 2 _ rfl
  have h3 : ((-2147483648) : Int) ≤ g.1 3 ∧ g.1 3 ≤ (2147483647 : Int) := hei 3 _ rfl
  have h4 : ((-2147483648) : Int) ≤ g.1 4 ∧ g.1 4 ≤ (2147483647 : Int) := hei 4 _ rfl
  have h5 : ((-2147483648) : Int) ≤ g.1 5 ∧ g.1 5 ≤ (2147483647 : Int) := hei 5 _ rfl
  have h6 : ((-2147483648) : Int) ≤ g.1 6 ∧ g.1 6 ≤ (2147483647 : Int) := hei 6 _ rfl
  have h7 : ((-2147483648) : Int) ≤ g.1 7 ∧ g.1 7 ≤ (2147483647 : Int) := hei 7 _ rfl
  have hb : X.2.2 95 0 = some 7 := hdl ((95, 0), (2, 7, 0)) (.head _)
  have f0 : X.1 8 0 = g.1 2 + 0 := (hdl ((8, 0), (0, 2, 0)) (.tail _ (.head _)))
  have f1 : X.1 8 1 = g.1 3 + 0 := (hdl ((8, 1), (0, 3, 0)) (.tail _ (.tail _ (.head _))))
  have f2 : X.1 8 2 = g.1 4 + 0 := (hdl ((8, 2), (0, 4, 0)) (.tail _ (.tail _ (.tail _ (.head _)))))
  have f3 : X.1 8 3 = g.1 5 + 0 := (hdl ((8, 3), (0, 5, 0)) (.tail _ (.tail _ (.tail _ (.tail _ (.head _))))))
  have f4 : X.1 8 4 = g.1 6 + 0 := (hdl ((8, 4), (0, 6, 0)) (.tail _ (.tail _ (.tail _ (.tail _ (.tail _ (.head _)))))))
  have f5 : X.1 8 5 = g.1 7 + 0 := (hdl ((8, 5), (0, 7, 0)) (.tail _ (.tail _ (.tail _ (.tail _ (.tail _ (.tail _ (.head _))))))))
  have hm : (0 : Int) ≤ (X.1 7 4) ∧ (X.1 7 4) ≤ 6 := hH.rF (k := 7) (i := 4) (p := (0, 6)) rfl rfl
  refine MetX.imp (fun r X1 hp => ?_) (xf_nextMan95_7 (X := X) (q := g.1 1 + 0) (by omega) (by omega) hb hH)
  obtain ⟨rfl, u, rfl, hu⟩ := hp
  rcases nmt_c hu with rfl | ⟨u0, u1, u2⟩
  · exact (altM_mk 0 [(-1)] rfl (ei_cons ⟨by show (0 : Int) ≤ g.1 0; omega, by show g.1 0 ≤ (0 : Int); omega⟩ (ei_cons ⟨by show (0 : Int) ≤ g.1 1; omega, by show g.1 1 ≤ (1 : Int); omega⟩ (ei_cons ⟨by show ((-2147483648) : Int) ≤ g.1 2; omega, by show g.1 2 ≤ (2147483647 : Int); omega⟩ (ei_cons ⟨by show ((-2147483648) : Int) ≤ g.1 3; omega, by show g.1 3 ≤ (2147483647 : Int); omega⟩ (ei_cons ⟨by show ((-2147483648) : Int) ≤ g.1 4; omega, by show g.1 4 ≤ (2147483647 : Int); omega⟩ (ei_cons ⟨by show ((-2147483648) : Int) ≤ g.1 5; omega, by show g.1 5 ≤ (2147483647 : Int); omega⟩ (ei_cons ⟨by show ((-2147483648) : Int) ≤ g.1 6; omega, by show g.1 6 ≤ (2147483647 : Int); omega⟩ (ei_cons ⟨by show ((-2147483648) : Int) ≤ g.1 7; omega, by show g.1 7 ≤ (2147483647 : Int); omega⟩ (ei_cons ⟨by show ((-1) : Int) ≤ (-1); omega, by show (-1) ≤ ((-1) : Int); omega⟩ ei_nil))))))))) el_nil (by rfl) dl_nil gd_nil hH hE FR.rf)
  rcases (show u = 0 ∨ u = 1 ∨ u = 2 ∨ u = 3 ∨ u = 4 ∨ u = 5 by omega) with rfl | rfl | rfl | rfl | rfl | rfl
  · have z : X1.1 8 0 = g.1 1 + 0 := u2
    exact (altM_mk 1 [0] rfl (ei_cons ⟨by show (0 : Int) ≤ g.1 0; omega, by show g.1 0 ≤ (0 : Int); omega⟩ (ei_cons ⟨by show (0 : Int) ≤ g.1 1; omega, by show g.1 1 ≤ (1 : Int); omega⟩ (ei_cons ⟨by show (0 : Int) ≤ g.1 2; omega, by show g.1 2 ≤ (1 : Int); omega⟩ (ei_cons ⟨by show ((-2147483648) : Int) ≤ g.1 3; omega, by show g.1 3 ≤ (2147483647 : Int); omega⟩ (ei_cons ⟨by show ((-2147483648) : Int) ≤ g.1 4; omega, by show g.1 4 ≤ (2147483647 : Int); omega⟩ (ei_cons ⟨by show ((-2147483648) : Int) ≤ g.1 5; omega, by show g.1 5 ≤ (2147483647 : Int); omega⟩ (ei_cons ⟨by show ((-2147483648) : Int) ≤ g.1 6; omega, by show g.1 6 ≤ (2147483647 : Int); omega⟩ (ei_cons ⟨by show ((-2147483648) : Int) ≤ g.1 7; omega, by show g.1 7 ≤ (2147483647 : Int); omega⟩ (ei_cons ⟨by show (0 : Int) ≤ 0; omega, by show 0 ≤ (0 : Int); omega⟩ ei_nil))))))))) el_nil (by rfl) dl_nil gd_nil hH hE FR.rf)
  · have z : X1.1 8 1 = g.1 1 + 0 := u2
    exact (altM_mk 2 [1] rfl (ei_cons ⟨by show (0 : Int) ≤ g.1 0; omega, by show g.1 0 ≤ (0 : Int); omega⟩ (ei_cons ⟨by show (0 : Int) ≤ g.1 1; omega, by show g.1 1 ≤ (1 : Int); omega⟩ (ei_cons ⟨by show ((-2147483648) : Int) ≤ g.1 2; omega, by show g.1 2 ≤ (2147483647 : Int); omega⟩ (ei_cons ⟨by show (0 : Int) ≤ g.1 3; omega, by show g.1 3 ≤ (1 : Int); omega⟩ (ei_cons ⟨by show ((-2147483648) : Int) ≤ g.1 4; omega, by show g.1 4 ≤ (2147483647 : Int); omega⟩ (ei_cons ⟨by show ((-2147483648) : Int) ≤ g.1 5; omega, by show g.1 5 ≤ (2147483647 : Int); omega⟩ (ei_cons ⟨by show ((-2147483648) : Int) ≤ g.1 6; omega, by show g.1 6 ≤ (2147483647 : Int); omega⟩ (ei_cons ⟨by show ((-2147483648) : Int) ≤ g.1 7; omega, by show g.1 7 ≤ (2147483647 : Int); omega⟩ (ei_cons ⟨by show (1 : Int) ≤ 1; omega, by show 1 ≤ (1 : Int); omega⟩ ei_nil))))))))) el_nil (by rfl) dl_nil gd_nil hH hE FR.rf)
  · have z : X1.1 8 2 = g.1 1 + 0 := u2
    exact (altM_mk 3 [2] rfl (ei_cons ⟨by show (0 : Int) ≤ g.1 0; omega, by show g.1 0 ≤ (0 : Int); omega⟩ (ei_cons ⟨by show (0 : Int) ≤ g.1 1; omega, by show g.1 1 ≤ (1 : Int); omega⟩ (ei_cons ⟨by show ((-2147483648) : Int) ≤ g.1 2; omega, by show g.1 2 ≤ (2147483647 : Int); omega⟩ (ei_cons ⟨by show ((-2147483648) : Int) ≤ g.1 3; omega, by show g.1 3 ≤ (2147483647 : Int); omega⟩ (ei_cons ⟨by show (0 : Int) ≤ g.1 4; omega, by show g.1 4 ≤ (1 : Int); omega⟩ (ei_cons ⟨by show ((-2147483648) : Int) ≤ g.1 5; omega, by show g.1 5 ≤ (2147483647 : Int); omega⟩ (ei_cons ⟨by show ((-2147483648) : Int) ≤ g.1 6; omega, by show g.1 6 ≤ (2147483647 : Int); omega⟩ (ei_cons ⟨by show ((-2147483648) : Int) ≤ g.1 7; omega, by show g.1 7 ≤ (2147483647 : Int); omega⟩ (ei_cons ⟨by show (2 : Int) ≤ 2; omega, by show 2 ≤ (2 : Int); omega⟩ ei_nil))))))))) el_nil (by rfl) dl_nil gd_nil hH hE FR.rf)
  · have z : X1.1 8 3 = g.1 1 + 0 := u2
    exact (altM_mk 4 [3] rfl (ei_cons ⟨by show (0 : Int) ≤ g.1 0; omega, by show g.1 0 ≤ (0 : Int); omega⟩ (ei_cons ⟨by show (0 : Int) ≤ g.1 1; omega, by show g.1 1 ≤ (1 : Int); omega⟩ (ei_cons ⟨by show ((-2147483648) : Int) ≤ g.1 2; omega, by show g.1 2 ≤ (2147483647 : Int); omega⟩ (ei_cons ⟨by show ((-2147483648) : Int) ≤ g.1 3; omega, by show g.1 3 ≤ (2147483647 : Int); omega⟩ (ei_cons ⟨by show ((-2147483648) : Int) ≤ g.1 4; omega, by show g.1 4 ≤ (2147483647 : Int); omega⟩ (ei_cons ⟨by show (0 : Int) ≤ g.1 5; omega, by show g.1 5 ≤ (1 : Int); omega⟩ (ei_cons ⟨by show ((-2147483648) : Int) ≤ g.1 6; omega, by show g.1 6 ≤ (2147483647 : Int); omega⟩ (ei_cons ⟨by show ((-2147483648) : Int) ≤ g.1 7; omega, by show g.1 7 ≤ (2147483647 : Int); omega⟩ (ei_cons ⟨by show (3 : Int) ≤ 3; omega, by show 3 ≤ (3 : Int); omega⟩ ei_nil))))))))) el_nil (by rfl) dl_nil gd_nil hH hE FR.rf)
  · have z : X1.1 8 4 = g.1 1 + 0 := u2
    exact (altM_mk 5 [4] rfl (ei_cons ⟨by show (0 : Int) ≤ g.1 0; omega, by show g.1 0 ≤ (0 : Int); omega⟩ (ei_cons ⟨by show (0 : Int) ≤ g.1 1; omega, by show g.1 1 ≤ (1 : Int); omega⟩ (ei_cons ⟨by show ((-2147483648) : Int) ≤ g.1 2; omega, by show g.1 2 ≤ (2147483647 : Int); omega⟩ (ei_cons ⟨by show ((-2147483648) : Int) ≤ g.1 3; omega, by show g.1 3 ≤ (2147483647 : Int); omega⟩ (ei_cons ⟨by show ((-2147483648) : Int) ≤ g.1 4; omega, by show g.1 4 ≤ (2147483647 : Int); omega⟩ (ei_cons ⟨by show ((-2147483648) : Int) ≤ g.1 5; omega, by show g.1 5 ≤ (2147483647 : Int); omega⟩ (ei_cons ⟨by show (0 : Int) ≤ g.1 6; omega, by show g.1 6 ≤ (1 : Int); omega⟩ (ei_cons ⟨by show ((-2147483648) : Int) ≤ g.1 7; omega, by show g.1 7 ≤ (2147483647 : Int); omega⟩ (ei_cons ⟨by show (4 : Int) ≤ 4; omega, by show 4 ≤ (4 : Int); omega⟩ ei_nil))))))))) el_nil (by rfl) dl_nil gd_nil hH hE FR.rf)
  · have z : X1.1 8 5 = g.1 1 + 0 := u2
    exact (altM_mk 6 [5] rfl (ei_cons ⟨by show (0 : Int) ≤ g.1 0; omega, by show g.1 0 ≤ (0 : Int); omega⟩ (ei_cons ⟨by show (0 : Int) ≤ g.1 1; omega, by show g.1 1 ≤ (1 : Int); omega⟩ (ei_cons ⟨by show ((-2147483648) : Int) ≤ g.1 2; omega, by show g.1 2 ≤ (2147483647 : Int); omega⟩ (ei_cons ⟨by show ((-2147483648) : Int) ≤ g.1 3; omega, by show g.1 3 ≤ (2147483647 : Int); omega⟩ (ei_cons ⟨by show ((-2147483648) : Int) ≤ g.1 4; omega, by show g.1 4 ≤ (2147483647 : Int); omega⟩ (ei_cons ⟨by show ((-2147483648) : Int) ≤ g.1 5; omega, by show g.1 5 ≤ (2147483647 : Int); omega⟩ (ei_cons ⟨by show ((-2147483648) : Int) ≤ g.1 6; omega, by show g.1 6 ≤ (2147483647 : Int); omega⟩ (ei_cons ⟨by show (0 : Int) ≤ g.1 7; omega, by show g.1 7 ≤ (1 : Int); omega⟩ (ei_cons ⟨by show (5 : Int) ≤ 5; omega, by show 5 ≤ (5 : Int); omega⟩ ei_nil))))))))) el_nil (by rfl) dl_nil gd_nil hH hE FR.rf)
set_option maxHeartbeats 4000000 in
set_option maxRecDepth 100000 in
theorem xf_isSt92_7 {D : va_G} {ad : Nat → Nat} {cA : Nat → ClassId} {X : XT} {q k : Int} (q0 : 0 ≤ q) (q1 : q ≤ 1) (hb : X.2.2 92 0 = some 7) (hH : HG vX X) (k0 : 0 ≤ k) (k5 : k ≤ 5) : MetX (wX D ad cA) yX7_isStanding cX7_isStanding 3 (some .boolean) 0 0 [.ref 92, .int (iI (k)), .int (iI (q))] X (fun r X' => X' = X ∧ ∃ u : Int, r = some (.int (iI u)) ∧ ((u = 1 ∧ SNT (X.1 8) (X.1 93) q k.toNat) ∨ (u = 0 ∧ ¬ SNT (X.1 8) (X.1 93) q k.toNat))) := by
  refine MetX.mk (own := RX7) (by decide +kernel) rfl (nle rfl) (fun E C hQ => ?_)
  refine Wx_lv (lv' := [(0, .ref 92), (1, .int (iI (k))), (2, .int (iI (q)))]) rfl ?_
  refine x_aload_n (i := 0) C dX7_isStanding_0 rfl rfl ?_
  refine x_getRs (r := 7) C fkX_X7_18 (nlt rfl) rfl hb dX7_isStanding_1 ?_
  refine x_getRs (r := 8) C fkX_X7_40 (nlt rfl) rfl (HG.rR hH (k := 7) (i := 5) rfl rfl) dX7_isStanding_4 ?_
  refine x_iload_n (i := 1) C dX7_isStanding_7 rfl rfl ?_
  refine x_iald C (nlt rfl) rfl rfl (nle rfl) (by omega) (by omega) dX7_isStanding_8 ?_
  refine x_gen (fun v1 ev1 => ?_)
  have qv1 : ((-2147483648) : Int) ≤ v1 ∧ v1 ≤ (2147483647 : Int) := by
    rw [ev1]
    exact hH.rA (k := 8) (n := 6) (p := ((-2147483648), 2147483647)) (nlt rfl) rfl (by decide +kernel) (by omega)
  refine x_iload_n (i := 2) C dX7_isStanding_9 rfl rfl ?_
  refine x_icmp_ne (tgt := 27) C dX7_isStanding_10 (by decide) ⟨by omega, by omega⟩ ⟨by omega, by omega⟩ (fun h2 => ?_) (fun h2 => ?_)
  · refine x_iconst C dX7_isStanding_27 ?_
    exact x_zret C hQ (by omega) dX7_isStanding_28 (⟨rfl, _, rfl, .inr ⟨rfl, fun t => by have t1 := t.1; have t2 := t.2; omega⟩⟩)
  · refine x_aload_n (i := 0) C dX7_isStanding_13 rfl rfl ?_
    refine x_getRs (r := 93) C fkX_X7_9 (nlt rfl) rfl (HG.rR hH (k := 92) (i := 3) rfl rfl) dX7_isStanding_14 ?_
    refine x_iload_n (i := 1) C dX7_isStanding_17 rfl rfl ?_
    refine x_iald C (nlt rfl) rfl rfl (nle rfl) (by omega) (by omega) dX7_isStanding_18 ?_
    refine x_gen (fun v3 ev3 => ?_)
    have qv3 : ((-2147483648) : Int) ≤ v3 ∧ v3 ≤ (2147483647 : Int) := by
      rw [ev3]
      exact hH.rA (k := 93) (n := 6) (p := ((-2147483648), 2147483647)) (nlt rfl) rfl (by decide +kernel) (by omega)
    refine x_iconst C dX7_isStanding_19 ?_
    refine x_icmp_eq (tgt := 27) C dX7_isStanding_20 (by decide) ⟨by omega, by omega⟩ ⟨by omega, by omega⟩ (fun h4 => ?_) (fun h4 => ?_)
    · refine x_iconst C dX7_isStanding_27 ?_
      exact x_zret C hQ (by omega) dX7_isStanding_28 (⟨rfl, _, rfl, .inr ⟨rfl, fun t => by have t1 := t.1; have t2 := t.2; omega⟩⟩)
    · refine x_iconst C dX7_isStanding_23 ?_
      refine x_goto (tgt := 28) C dX7_isStanding_24 (by decide) ?_
      exact x_zret C hQ (by omega) dX7_isStanding_28 (⟨rfl, _, rfl, .inl ⟨rfl, by rw [← ev1]; omega, by rw [← ev3]; omega⟩⟩)
set_option maxHeartbeats 4000000 in
set_option maxRecDepth 100000 in
theorem xl_nxB92_7 {D : va_G} {ad : Nat → Nat} {cA : Nat → ClassId} {X : XT} {q : Int} (q0 : 0 ≤ q) (q1 : q ≤ 1) (hb : X.2.2 92 0 = some 7) (hH : HG vX X) {E : ET} (C : CX E (wX D ad cA) cX7_nextMan 4 RX7 (some .int) { frames := 1, cells := 0, slots := 0, locals := 22 }) (hQ : EQ E (wX D ad cA) (fun r X' => X' = X ∧ ∃ u : Int, r = some (.int (iI u)) ∧ NMT (X.1 7 4) (X.1 8) (X.1 93) (X.1 94 q.toNat) q u)) : ∀ (n : Nat) (i : Int) (l : Int), 7 - i < n → 0 ≤ i → i ≤ 6 → X.1 94 q.toNat < i → LST (X.1 7 4) (X.1 8) (X.1 93) q (-1) l → BHD (X.1 8) (X.1 93) q (X.1 94 q.toNat) i → Wx E (wX D ad cA) 4 (PX (wX D ad cA) X) 42 [(3, .int (iI (i))), (2, .int (iI (l))), (0, .ref 92), (1, .int (iI (q)))] [] := by
  intro n
  induction n with
  | zero => intro i l hn i0 i1 iw hl hw; exfalso; omega
  | succ n ih =>
    intro i l hn i0 i1 iw hl hw
    have hm : (0 : Int) ≤ (X.1 7 4) ∧ (X.1 7 4) ≤ 6 := hH.rF (k := 7) (i := 4) (p := (0, 6)) rfl rfl
    have lb := lst_b hl
    refine x_iload_n (i := 3) C dX7_nextMan_42 rfl rfl ?_
    refine x_aload_n (i := 0) C dX7_nextMan_43 rfl rfl ?_
    refine x_getRs (r := 7) C fkX_X7_18 (nlt rfl) rfl hb dX7_nextMan_44 ?_
    refine x_getI C fkX_X7_43 (nlt rfl) rfl dX7_nextMan_47 ?_
    refine x_gen (fun v1 ev1 => ?_)
    have qv1 : (0 : Int) ≤ v1 ∧ v1 ≤ (6 : Int) := by
      rw [ev1]
      exact hH.rF (k := 7) (i := 4) rfl rfl
    have mv1 : v1 = X.1 7 4 := ev1
    refine x_icmp_ge (tgt := 70) C dX7_nextMan_50 (by decide) ⟨by omega, by omega⟩ ⟨by omega, by omega⟩ (fun h2 => ?_) (fun h2 => ?_)
    · refine x_iload_n (i := 2) C dX7_nextMan_70 rfl rfl ?_
      exact x_iret C hQ dX7_nextMan_71 (⟨rfl, _, rfl, nmt_l hl hw (by omega)⟩)
    · refine x_aload_n (i := 0) C dX7_nextMan_53 rfl rfl ?_
      refine x_iload_n (i := 3) C dX7_nextMan_54 rfl rfl ?_
      refine x_iload_n (i := 1) C dX7_nextMan_55 rfl rfl ?_
      refine x_callV (As := [.int (iI (i)), .int (iI (q))]) C (by exact (xf_isSt92_7 (k := i) q0 q1 hb hH (by omega) (by omega))) ckX7_46 im_X7_isStanding se_X7_isStanding (nlt rfl) rfl rfl rfl rfl (nle rfl) (by exact ⟨nle rfl, nle rfl⟩) dX7_nextMan_56 ?_
      rintro _ Xv3 ⟨hxv3, v3, rfl, ev3⟩
      rw [hxv3]
      refine Wx_st (st' := [.int (iI (v3))]) rfl ?_
      refine x_if_eq (tgt := 64) C dX7_nextMan_59 (by decide) ⟨by omega, by omega⟩ (fun h4 => ?_) (fun h4 => ?_)
      · refine x_iinc (lv' := [(3, .int (iI (i + 1))), (2, .int (iI (l))), (0, .ref 92), (1, .int (iI (q)))]) C dX7_nextMan_64 rfl (nlt rfl) rfl ?_
        refine x_goto (tgt := 42) C dX7_nextMan_67 (by decide) ?_
        refine Wx_pick [3, 2, 0, 1] ?_
        refine Wx_lv (lv' := [(3, .int (iI (i + 1))), (2, .int (iI (l))), (0, .ref 92), (1, .int (iI (q)))]) rfl ?_
        exact ih _ _ (by omega) (by omega) (by omega) (by omega) hl (bhd_n (by omega) hw (ev3.elim (fun t => by exfalso; have := t.1; omega) (fun t => t.2)))
      · refine x_iload_n (i := 3) C dX7_nextMan_62 rfl rfl ?_
        exact x_iret C hQ dX7_nextMan_63 (⟨rfl, _, rfl, nmt_i (by omega) (by omega) (by omega) hw (ev3.elim (fun t => t.2) (fun t => by exfalso; have := t.1; omega))⟩)
set_option maxHeartbeats 4000000 in
set_option maxRecDepth 100000 in
theorem xl_nxA92_7 {D : va_G} {ad : Nat → Nat} {cA : Nat → ClassId} {X : XT} {q : Int} (q0 : 0 ≤ q) (q1 : q ≤ 1) (hb : X.2.2 92 0 = some 7) (hH : HG vX X) {E : ET} (C : CX E (wX D ad cA) cX7_nextMan 4 RX7 (some .int) { frames := 1, cells := 0, slots := 0, locals := 22 }) (hQ : EQ E (wX D ad cA) (fun r X' => X' = X ∧ ∃ u : Int, r = some (.int (iI u)) ∧ NMT (X.1 7 4) (X.1 8) (X.1 93) (X.1 94 q.toNat) q u)) : ∀ (n : Nat) (i : Int) (l : Int), i + 1 < n → -1 ≤ i → i < (X.1 7 4) → LST (X.1 7 4) (X.1 8) (X.1 93) q i l → Wx E (wX D ad cA) 4 (PX (wX D ad cA) X) 12 [(3, .int (iI (i))), (2, .int (iI (l))), (0, .ref 92), (1, .int (iI (q)))] [] := by
  intro n
  induction n with
  | zero => intro i l hn i0 i1 hl; exfalso; omega
  | succ n ih =>
    intro i l hn i0 i1 hl
    have hm : (0 : Int) ≤ (X.1 7 4) ∧ (X.1 7 4) ≤ 6 := hH.rF (k := 7) (i := 4) (p := (0, 6)) rfl rfl
    have lb := lst_b hl
    refine x_iload_n (i := 3) C dX7_nextMan_12 rfl rfl ?_
    refine x_if_lt (tgt := 33) C dX7_nextMan_13 (by decide) ⟨by omega, by omega⟩ (fun h1 => ?_) (fun h1 => ?_)
    · refine x_aload_n (i := 0) C dX7_nextMan_33 rfl rfl ?_
      refine x_getRs (r := 94) C fkX_X7_15 (nlt rfl) rfl (HG.rR hH (k := 92) (i := 4) rfl rfl) dX7_nextMan_34 ?_
      refine x_iload_n (i := 1) C dX7_nextMan_37 rfl rfl ?_
      refine x_iald C (nlt rfl) rfl rfl (nle rfl) (by omega) (by omega) dX7_nextMan_38 ?_
      refine x_gen (fun v2 ev2 => ?_)
      have qv2 : ((-1) : Int) ≤ v2 ∧ v2 ≤ (5 : Int) := by
        rw [ev2]
        exact hH.rA (k := 94) (n := 2) (p := ((-1), 5)) (nlt rfl) rfl (by decide +kernel) (by omega)
      refine x_iconst C dX7_nextMan_39 ?_
      refine x_iadd C dX7_nextMan_40 ?_
      refine x_gen (fun v3 ev3 => ?_)
      refine x_istore_n (i := 3) (lv' := [(3, .int (iI (v3))), (2, .int (iI (l))), (0, .ref 92), (1, .int (iI (q)))]) C dX7_nextMan_41 rfl (nlt rfl) rfl ?_
      refine Wx_pick [3, 2, 0, 1] ?_
      refine Wx_lv (lv' := [(3, .int (iI (v3))), (2, .int (iI (l))), (0, .ref 92), (1, .int (iI (q)))]) rfl ?_
      exact xl_nxB92_7 q0 q1 hb hH C hQ 8 _ _ (by omega) (by omega) (by omega) (by omega) (by rw [show i = -1 by omega] at hl; exact hl) (bhd_0 (by omega))
    · refine x_aload_n (i := 0) C dX7_nextMan_16 rfl rfl ?_
      refine x_iload_n (i := 3) C dX7_nextMan_17 rfl rfl ?_
      refine x_iload_n (i := 1) C dX7_nextMan_18 rfl rfl ?_
      refine x_callV (As := [.int (iI (i)), .int (iI (q))]) C (by exact (xf_isSt92_7 (k := i) q0 q1 hb hH (by omega) (by omega))) ckX7_46 im_X7_isStanding se_X7_isStanding (nlt rfl) rfl rfl rfl rfl (nle rfl) (by exact ⟨nle rfl, nle rfl⟩) dX7_nextMan_19 ?_
      rintro _ Xv4 ⟨hxv4, v4, rfl, ev4⟩
      rw [hxv4]
      refine Wx_st (st' := [.int (iI (v4))]) rfl ?_
      refine x_if_eq (tgt := 27) C dX7_nextMan_22 (by decide) ⟨by omega, by omega⟩ (fun h5 => ?_) (fun h5 => ?_)
      · refine x_iinc (lv' := [(3, .int (iI (i + (-1)))), (2, .int (iI (l))), (0, .ref 92), (1, .int (iI (q)))]) C dX7_nextMan_27 rfl (nlt rfl) rfl ?_
        refine x_goto (tgt := 12) C dX7_nextMan_30 (by decide) ?_
        refine Wx_pick [3, 2, 0, 1] ?_
        refine Wx_lv (lv' := [(3, .int (iI (i + (-1)))), (2, .int (iI (l))), (0, .ref 92), (1, .int (iI (q)))]) rfl ?_
        exact ih _ _ (by omega) (by omega) (by omega) (lst_n (by omega) hl (ev4.elim (fun t => by exfalso; have := t.1; omega) (fun t => t.2)))
      · refine x_iload_n (i := 3) C dX7_nextMan_25 rfl rfl ?_
        refine x_istore_n (i := 2) (lv' := [(2, .int (iI (i))), (3, .int (iI (i))), (0, .ref 92), (1, .int (iI (q)))]) C dX7_nextMan_26 rfl (nlt rfl) rfl ?_
        refine x_iinc (lv' := [(3, .int (iI (i + (-1)))), (2, .int (iI (i))), (0, .ref 92), (1, .int (iI (q)))]) C dX7_nextMan_27 rfl (nlt rfl) rfl ?_
        refine x_goto (tgt := 12) C dX7_nextMan_30 (by decide) ?_
        refine Wx_pick [3, 2, 0, 1] ?_
        refine Wx_lv (lv' := [(3, .int (iI (i + (-1)))), (2, .int (iI (i))), (0, .ref 92), (1, .int (iI (q)))]) rfl ?_
        exact ih _ _ (by omega) (by omega) (by omega) (lst_y (by omega) i1 hl (ev4.elim (fun t => t.2) (fun t => by exfalso; have := t.1; omega)))
set_option maxHeartbeats 4000000 in
set_option maxRecDepth 100000 in
theorem xf_nextMan92_7 {D : va_G} {ad : Nat → Nat} {cA : Nat → ClassId} {X : XT} {q : Int} (q0 : 0 ≤ q) (q1 : q ≤ 1) (hb : X.2.2 92 0 = some 7) (hH : HG vX X) : MetX (wX D ad cA) yX7_nextMan cX7_nextMan 4 (some .int) 1 22 [.ref 92, .int (iI (q))] X (fun r X' => X' = X ∧ ∃ u : Int, r = some (.int (iI u)) ∧ NMT (X.1 7 4) (X.1 8) (X.1 93) (X.1 94 q.toNat) q u) := by
  have hm : (0 : Int) ≤ (X.1 7 4) ∧ (X.1 7 4) ≤ 6 := hH.rF (k := 7) (i := 4) (p := (0, 6)) rfl rfl
  refine MetX.mk (own := RX7) (by decide +kernel) rfl (nle rfl) (fun E C hQ => ?_)
  refine Wx_lv (lv' := [(0, .ref 92), (1, .int (iI (q)))]) rfl ?_
  refine x_iconst C dX7_nextMan_0 ?_
  refine x_istore_n (i := 2) (lv' := [(2, .int (iI ((-1)))), (0, .ref 92), (1, .int (iI (q)))]) C dX7_nextMan_1 rfl (nlt rfl) rfl ?_
  refine x_aload_n (i := 0) C dX7_nextMan_2 rfl rfl ?_
  refine x_getRs (r := 7) C fkX_X7_18 (nlt rfl) rfl hb dX7_nextMan_3 ?_
  refine x_getI C fkX_X7_43 (nlt rfl) rfl dX7_nextMan_6 ?_
  refine x_gen (fun v1 ev1 => ?_)
  have qv1 : (0 : Int) ≤ v1 ∧ v1 ≤ (6 : Int) := by
    rw [ev1]
    exact hH.rF (k := 7) (i := 4) rfl rfl
  have mv1 : v1 = X.1 7 4 := ev1
  refine x_iconst C dX7_nextMan_9 ?_
  refine x_isub C dX7_nextMan_10 ?_
  refine x_gen (fun v2 ev2 => ?_)
  refine x_istore_n (i := 3) (lv' := [(3, .int (iI (v2))), (2, .int (iI ((-1)))), (0, .ref 92), (1, .int (iI (q)))]) C dX7_nextMan_11 rfl (nlt rfl) rfl ?_
  refine Wx_pick [3, 2, 0, 1] ?_
  refine Wx_lv (lv' := [(3, .int (iI (v2))), (2, .int (iI ((-1)))), (0, .ref 92), (1, .int (iI (q)))]) rfl ?_
  exact xl_nxA92_7 q0 q1 hb hH C hQ 8 _ (-1) (by omega) (by omega) (by omega) (lst_0 (by omega))
set_option maxRecDepth 10000 in
theorem t_X_254 {D : va_G} {ad : Nat → Nat} {cA : Nat → ClassId} : CTR mtX vX gX (wX D ad cA) k_X_254 := by
  intro g X hpre
  obtain ⟨h00, hei, hel, hdl, hH, hE⟩ := hpre
  have h0 : (0 : Int) ≤ g.1 0 ∧ g.1 0 ≤ (0 : Int) := hei 0 _ rfl
  have h1 : (0 : Int) ≤ g.1 1 ∧ g.1 1 ≤ (1 : Int) := hei 1 _ rfl
  have h2 : ((-2147483648) : Int) ≤ g.1 2 ∧ g.1 2 ≤ (2147483647 : Int) := hei 2 _ rfl
  have h3 : ((-2147483648) : Int) ≤ g.1 3 ∧ g.1 3 ≤ (2147483647 : Int) := hei 3 _ rfl
  have h4 : ((-2147483648) : Int) ≤ g.1 4 ∧ g.1 4 ≤ (2147483647 : Int) := hei 4 _ rfl
  have h5 : ((-2147483648) : Int) ≤ g.1 5 ∧ g.1 5 ≤ (2147483647 : Int) := hei 5 _ rfl
  have h6 : ((-2147483648) : Int) ≤ g.1 6 ∧ g.1 6 ≤ (2147483647 : Int) := hei 6 _ rfl
  have h7 : ((-2147483648) : Int) ≤ g.1 7 ∧ g.1 7 ≤ (2147483647 : Int) := hei 7 _ rfl
  have hb : X.2.2 92 0 = some 7 := hdl ((92, 0), (2, 7, 0)) (.head _)
  have f0 : X.1 8 0 = g.1 2 + 0 := (hdl ((8, 0), (0, 2, 0)) (.tail _ (.head _)))
  have f1 : X.1 8 1 = g.1 3 + 0 := (hdl ((8, 1), (0, 3, 0)) (.tail _ (.tail _ (.head _))))
  have f2 : X.1 8 2 = g.1 4 + 0 := (hdl ((8, 2), (0, 4, 0)) (.tail _ (.tail _ (.tail _ (.head _)))))
  have f3 : X.1 8 3 = g.1 5 + 0 := (hdl ((8, 3), (0, 5, 0)) (.tail _ (.tail _ (.tail _ (.tail _ (.head _))))))
  have f4 : X.1 8 4 = g.1 6 + 0 := (hdl ((8, 4), (0, 6, 0)) (.tail _ (.tail _ (.tail _ (.tail _ (.tail _ (.head _)))))))
  have f5 : X.1 8 5 = g.1 7 + 0 := (hdl ((8, 5), (0, 7, 0)) (.tail _ (.tail _ (.tail _ (.tail _ (.tail _ (.tail _ (.head _))))))))
  have hm : (0 : Int) ≤ (X.1 7 4) ∧ (X.1 7 4) ≤ 6 := hH.rF (k := 7) (i := 4) (p := (0, 6)) rfl rfl
  refine MetX.imp (fun r X1 hp => ?_) (xf_nextMan92_7 (X := X) (q := g.1 1 + 0) (by omega) (by omega) hb hH)
  obtain ⟨rfl, u, rfl, hu⟩ := hp
  rcases nmt_c hu with rfl | ⟨u0, u1, u2⟩
  · exact (altM_mk 0 [(-1)] rfl (ei_cons ⟨by show (0 : Int) ≤ g.1 0; omega, by show g.1 0 ≤ (0 : Int); omega⟩ (ei_cons ⟨by show (0 : Int) ≤ g.1 1; omega, by show g.1 1 ≤ (1 : Int); omega⟩ (ei_cons ⟨by show ((-2147483648) : Int) ≤ g.1 2; omega, by show g.1 2 ≤ (2147483647 : Int); omega⟩ (ei_cons ⟨by show ((-2147483648) : Int) ≤ g.1 3; omega, by show g.1 3 ≤ (2147483647 : Int); omega⟩ (ei_cons ⟨by show ((-2147483648) : Int) ≤ g.1 4; omega, by show g.1 4 ≤ (2147483647 : Int); omega⟩ (ei_cons ⟨by show ((-2147483648) : Int) ≤ g.1 5; omega, by show g.1 5 ≤ (2147483647 : Int); omega⟩ (ei_cons ⟨by show ((-2147483648) : Int) ≤ g.1 6; omega, by show g.1 6 ≤ (2147483647 : Int); omega⟩ (ei_cons ⟨by show ((-2147483648) : Int) ≤ g.1 7; omega, by show g.1 7 ≤ (2147483647 : Int); omega⟩ (ei_cons ⟨by show ((-1) : Int) ≤ (-1); omega, by show (-1) ≤ ((-1) : Int); omega⟩ ei_nil))))))))) el_nil (by rfl) dl_nil gd_nil hH hE FR.rf)
  rcases (show u = 0 ∨ u = 1 ∨ u = 2 ∨ u = 3 ∨ u = 4 ∨ u = 5 by omega) with rfl | rfl | rfl | rfl | rfl | rfl
  · have z : X1.1 8 0 = g.1 1 + 0 := u2
    exact (altM_mk 1 [0] rfl (ei_cons ⟨by show (0 : Int) ≤ g.1 0; omega, by show g.1 0 ≤ (0 : Int); omega⟩ (ei_cons ⟨by show (0 : Int) ≤ g.1 1; omega, by show g.1 1 ≤ (1 : Int); omega⟩ (ei_cons ⟨by show (0 : Int) ≤ g.1 2; omega, by show g.1 2 ≤ (1 : Int); omega⟩ (ei_cons ⟨by show ((-2147483648) : Int) ≤ g.1 3; omega, by show g.1 3 ≤ (2147483647 : Int); omega⟩ (ei_cons ⟨by show ((-2147483648) : Int) ≤ g.1 4; omega, by show g.1 4 ≤ (2147483647 : Int); omega⟩ (ei_cons ⟨by show ((-2147483648) : Int) ≤ g.1 5; omega, by show g.1 5 ≤ (2147483647 : Int); omega⟩ (ei_cons ⟨by show ((-2147483648) : Int) ≤ g.1 6; omega, by show g.1 6 ≤ (2147483647 : Int); omega⟩ (ei_cons ⟨by show ((-2147483648) : Int) ≤ g.1 7; omega, by show g.1 7 ≤ (2147483647 : Int); omega⟩ (ei_cons ⟨by show (0 : Int) ≤ 0; omega, by show 0 ≤ (0 : Int); omega⟩ ei_nil))))))))) el_nil (by rfl) dl_nil gd_nil hH hE FR.rf)
  · have z : X1.1 8 1 = g.1 1 + 0 := u2
    exact (altM_mk 2 [1] rfl (ei_cons ⟨by show (0 : Int) ≤ g.1 0; omega, by show g.1 0 ≤ (0 : Int); omega⟩ (ei_cons ⟨by show (0 : Int) ≤ g.1 1; omega, by show g.1 1 ≤ (1 : Int); omega⟩ (ei_cons ⟨by show ((-2147483648) : Int) ≤ g.1 2; omega, by show g.1 2 ≤ (2147483647 : Int); omega⟩ (ei_cons ⟨by show (0 : Int) ≤ g.1 3; omega, by show g.1 3 ≤ (1 : Int); omega⟩ (ei_cons ⟨by show ((-2147483648) : Int) ≤ g.1 4; omega, by show g.1 4 ≤ (2147483647 : Int); omega⟩ (ei_cons ⟨by show ((-2147483648) : Int) ≤ g.1 5; omega, by show g.1 5 ≤ (2147483647 : Int); omega⟩ (ei_cons ⟨by show ((-2147483648) : Int) ≤ g.1 6; omega, by show g.1 6 ≤ (2147483647 : Int); omega⟩ (ei_cons ⟨by show ((-2147483648) : Int) ≤ g.1 7; omega, by show g.1 7 ≤ (2147483647 : Int); omega⟩ (ei_cons ⟨by show (1 : Int) ≤ 1; omega, by show 1 ≤ (1 : Int); omega⟩ ei_nil))))))))) el_nil (by rfl) dl_nil gd_nil hH hE FR.rf)
  · have z : X1.1 8 2 = g.1 1 + 0 := u2
    exact (altM_mk 3 [2] rfl (ei_cons ⟨by show (0 : Int) ≤ g.1 0; omega, by show g.1 0 ≤ (0 : Int); omega⟩ (ei_cons ⟨by show (0 : Int) ≤ g.1 1; omega, by show g.1 1 ≤ (1 : Int); omega⟩ (ei_cons ⟨by show ((-2147483648) : Int) ≤ g.1 2; omega, by show g.1 2 ≤ (2147483647 : Int); omega⟩ (ei_cons ⟨by show ((-2147483648) : Int) ≤ g.1 3; omega, by show g.1 3 ≤ (2147483647 : Int); omega⟩ (ei_cons ⟨by show (0 : Int) ≤ g.1 4; omega, by show g.1 4 ≤ (1 : Int); omega⟩ (ei_cons ⟨by show ((-2147483648) : Int) ≤ g.1 5; omega, by show g.1 5 ≤ (2147483647 : Int); omega⟩ (ei_cons ⟨by show ((-2147483648) : Int) ≤ g.1 6; omega, by show g.1 6 ≤ (2147483647 : Int); omega⟩ (ei_cons ⟨by show ((-2147483648) : Int) ≤ g.1 7; omega, by show g.1 7 ≤ (2147483647 : Int); omega⟩ (ei_cons ⟨by show (2 : Int) ≤ 2; omega, by show 2 ≤ (2 : Int); omega⟩ ei_nil))))))))) el_nil (by rfl) dl_nil gd_nil hH hE FR.rf)
  · have z : X1.1 8 3 = g.1 1 + 0 := u2
    exact (altM_mk 4 [3] rfl (ei_cons ⟨by show (0 : Int) ≤ g.1 0; omega, by show g.1 0 ≤ (0 : Int); omega⟩ (ei_cons ⟨by show (0 : Int) ≤ g.1 1; omega, by show g.1 1 ≤ (1 : Int); omega⟩ (ei_cons ⟨by show ((-2147483648) : Int) ≤ g.1 2; omega, by show g.1 2 ≤ (2147483647 : Int); omega⟩ (ei_cons ⟨by show ((-2147483648) : Int) ≤ g.1 3; omega, by show g.1 3 ≤ (2147483647 : Int); omega⟩ (ei_cons ⟨by show ((-2147483648) : Int) ≤ g.1 4; omega, by show g.1 4 ≤ (2147483647 : Int); omega⟩ (ei_cons ⟨by show (0 : Int) ≤ g.1 5; omega, by show g.1 5 ≤ (1 : Int); omega⟩ (ei_cons ⟨by show ((-2147483648) : Int) ≤ g.1 6; omega, by show g.1 6 ≤ (2147483647 : Int); omega⟩ (ei_cons ⟨by show ((-2147483648) : Int) ≤ g.1 7; omega, by show g.1 7 ≤ (2147483647 : Int); omega⟩ (ei_cons ⟨by show (3 : Int) ≤ 3; omega, by show 3 ≤ (3 : Int); omega⟩ ei_nil))))))))) el_nil (by rfl) dl_nil gd_nil hH hE FR.rf)
  · have z : X1.1 8 4 = g.1 1 + 0 := u2
    exact (altM_mk 5 [4] rfl (ei_cons ⟨by show (0 : Int) ≤ g.1 0; omega, by show g.1 0 ≤ (0 : Int); omega⟩ (ei_cons ⟨by show (0 : Int) ≤ g.1 1; omega, by show g.1 1 ≤ (1 : Int); omega⟩ (ei_cons ⟨by show ((-2147483648) : Int) ≤ g.1 2; omega, by show g.1 2 ≤ (2147483647 : Int); omega⟩ (ei_cons ⟨by show ((-2147483648) : Int) ≤ g.1 3; omega, by show g.1 3 ≤ (2147483647 : Int); omega⟩ (ei_cons ⟨by show ((-2147483648) : Int) ≤ g.1 4; omega, by show g.1 4 ≤ (2147483647 : Int); omega⟩ (ei_cons ⟨by show ((-2147483648) : Int) ≤ g.1 5; omega, by show g.1 5 ≤ (2147483647 : Int); omega⟩ (ei_cons ⟨by show (0 : Int) ≤ g.1 6; omega, by show g.1 6 ≤ (1 : Int); omega⟩ (ei_cons ⟨by show ((-2147483648) : Int) ≤ g.1 7; omega, by show g.1 7 ≤ (2147483647 : Int); omega⟩ (ei_cons ⟨by show (4 : Int) ≤ 4; omega, by show 4 ≤ (4 : Int); omega⟩ ei_nil))))))))) el_nil (by rfl) dl_nil gd_nil hH hE FR.rf)
  · have z : X1.1 8 5 = g.1 1 + 0 := u2
    exact (altM_mk 6 [5] rfl (ei_cons ⟨by show (0 : Int) ≤ g.1 0; omega, by show g.1 0 ≤ (0 : Int); omega⟩ (ei_cons ⟨by show (0 : Int) ≤ g.1 1; omega, by show g.1 1 ≤ (1 : Int); omega⟩ (ei_cons ⟨by show ((-2147483648) : Int) ≤ g.1 2; omega, by show g.1 2 ≤ (2147483647 : Int); omega⟩ (ei_cons ⟨by show ((-2147483648) : Int) ≤ g.1 3; omega, by show g.1 3 ≤ (2147483647 : Int); omega⟩ (ei_cons ⟨by show ((-2147483648) : Int) ≤ g.1 4; omega, by show g.1 4 ≤ (2147483647 : Int); omega⟩ (ei_cons ⟨by show ((-2147483648) : Int) ≤ g.1 5; omega, by show g.1 5 ≤ (2147483647 : Int); omega⟩ (ei_cons ⟨by show ((-2147483648) : Int) ≤ g.1 6; omega, by show g.1 6 ≤ (2147483647 : Int); omega⟩ (ei_cons ⟨by show (0 : Int) ≤ g.1 7; omega, by show g.1 7 ≤ (1 : Int); omega⟩ (ei_cons ⟨by show (5 : Int) ≤ 5; omega, by show 5 ≤ (5 : Int); omega⟩ ei_nil))))))))) el_nil (by rfl) dl_nil gd_nil hH hE FR.rf)
set_option maxHeartbeats 4000000 in
set_option maxRecDepth 100000 in
theorem xf_isSt101_10 {D : va_G} {ad : Nat → Nat} {cA : Nat → ClassId} {X : XT} {q k : Int} (q0 : 0 ≤ q) (q1 : q ≤ 1) (hb : X.2.2 101 0 = some 10) (hH : HG vX X) (k0 : 0 ≤ k) (k5 : k ≤ 5) : MetX (wX D ad cA) yX7_isStanding cX7_isStanding 3 (some .boolean) 0 0 [.ref 101, .int (iI (k)), .int (iI (q))] X (fun r X' => X' = X ∧ ∃ u : Int, r = some (.int (iI u)) ∧ ((u = 1 ∧ SNT (X.1 11) (X.1 102) q k.toNat) ∨ (u = 0 ∧ ¬ SNT (X.1 11) (X.1 102) q k.toNat))) := by
  refine MetX.mk (own := RX7) (by decide +kernel) rfl (nle rfl) (fun E C hQ => ?_)
  refine Wx_lv (lv' := [(0, .ref 101), (1, .int (iI (k))), (2, .int (iI (q)))]) rfl ?_
  refine x_aload_n (i := 0) C dX7_isStanding_0 rfl rfl ?_
  refine x_getRs (r := 10) C fkX_X7_18 (nlt rfl) rfl hb dX7_isStanding_1 ?_
  refine x_getRs (r := 11) C fkX_X7_40 (nlt rfl) rfl (HG.rR hH (k := 10) (i := 5) rfl rfl) dX7_isStanding_4 ?_
  refine x_iload_n (i := 1) C dX7_isStanding_7 rfl rfl ?_
  refine x_iald C (nlt rfl) rfl rfl (nle rfl) (by omega) (by omega) dX7_isStanding_8 ?_
  refine x_gen (fun v1 ev1 => ?_)
  have qv1 : ((-2147483648) : Int) ≤ v1 ∧ v1 ≤ (2147483647 : Int) := by
    rw [ev1]
    exact hH.rA (k := 11) (n := 6) (p := ((-2147483648), 2147483647)) (nlt rfl) rfl (by decide +kernel) (by omega)
  refine x_iload_n (i := 2) C dX7_isStanding_9 rfl rfl ?_
  refine x_icmp_ne (tgt := 27) C dX7_isStanding_10 (by decide) ⟨by omega, by omega⟩ ⟨by omega, by omega⟩ (fun h2 => ?_) (fun h2 => ?_)
  · refine x_iconst C dX7_isStanding_27 ?_
    exact x_zret C hQ (by omega) dX7_isStanding_28 (⟨rfl, _, rfl, .inr ⟨rfl, fun t => by have t1 := t.1; have t2 := t.2; omega⟩⟩)
  · refine x_aload_n (i := 0) C dX7_isStanding_13 rfl rfl ?_
    refine x_getRs (r := 102) C fkX_X7_9 (nlt rfl) rfl (HG.rR hH (k := 101) (i := 3) rfl rfl) dX7_isStanding_14 ?_
    refine x_iload_n (i := 1) C dX7_isStanding_17 rfl rfl ?_
    refine x_iald C (nlt rfl) rfl rfl (nle rfl) (by omega) (by omega) dX7_isStanding_18 ?_
    refine x_gen (fun v3 ev3 => ?_)
    have qv3 : ((-2147483648) : Int) ≤ v3 ∧ v3 ≤ (2147483647 : Int) := by
      rw [ev3]
      exact hH.rA (k := 102) (n := 6) (p := ((-2147483648), 2147483647)) (nlt rfl) rfl (by decide +kernel) (by omega)
    refine x_iconst C dX7_isStanding_19 ?_
    refine x_icmp_eq (tgt := 27) C dX7_isStanding_20 (by decide) ⟨by omega, by omega⟩ ⟨by omega, by omega⟩ (fun h4 => ?_) (fun h4 => ?_)
    · refine x_iconst C dX7_isStanding_27 ?_
      exact x_zret C hQ (by omega) dX7_isStanding_28 (⟨rfl, _, rfl, .inr ⟨rfl, fun t => by have t1 := t.1; have t2 := t.2; omega⟩⟩)
    · refine x_iconst C dX7_isStanding_23 ?_
      refine x_goto (tgt := 28) C dX7_isStanding_24 (by decide) ?_
      exact x_zret C hQ (by omega) dX7_isStanding_28 (⟨rfl, _, rfl, .inl ⟨rfl, by rw [← ev1]; omega, by rw [← ev3]; omega⟩⟩)
set_option maxHeartbeats 4000000 in
set_option maxRecDepth 100000 in
theorem xl_nxB101_10 {D : va_G} {ad : Nat → Nat} {cA : Nat → ClassId} {X : XT} {q : Int} (q0 : 0 ≤ q) (q1 : q ≤ 1) (hb : X.2.2 101 0 = some 10) (hH : HG vX X) {E : ET} (C : CX E (wX D ad cA) cX7_nextMan 4 RX7 (some .int) { frames := 1, cells := 0, slots := 0, locals := 22 }) (hQ : EQ E (wX D ad cA) (fun r X' => X' = X ∧ ∃ u : Int, r = some (.int (iI u)) ∧ NMT (X.1 10 4) (X.1 11) (X.1 102) (X.1 103 q.toNat) q u)) : ∀ (n : Nat) (i : Int) (l : Int), 7 - i < n → 0 ≤ i → i ≤ 6 → X.1 103 q.toNat < i → LST (X.1 10 4) (X.1 11) (X.1 102) q (-1) l → BHD (X.1 11) (X.1 102) q (X.1 103 q.toNat) i → Wx E (wX D ad cA) 4 (PX (wX D ad cA) X) 42 [(3, .int (iI (i))), (2, .int (iI (l))), (0, .ref 101), (1, .int (iI (q)))] [] := by
  intro n
  induction n with
  | zero => intro i l hn i0 i1 iw hl hw; exfalso; omega
  | succ n ih =>
    intro i l hn i0 i1 iw hl hw
    have hm : (0 : Int) ≤ (X.1 10 4) ∧ (X.1 10 4) ≤ 6 := hH.rF (k := 10) (i := 4) (p := (0, 6)) rfl rfl
    have lb := lst_b hl
    refine x_iload_n (i := 3) C dX7_nextMan_42 rfl rfl ?_
    refine x_aload_n (i := 0) C dX7_nextMan_43 rfl rfl ?_
    refine x_getRs (r := 10) C fkX_X7_18 (nlt rfl) rfl hb dX7_nextMan_44 ?_
    refine x_getI C fkX_X7_43 (nlt rfl) rfl dX7_nextMan_47 ?_
    refine x_gen (fun v1 ev1 => ?_)
    have qv1 : (0 : Int) ≤ v1 ∧ v1 ≤ (6 : Int) := by
      rw [ev1]
      exact hH.rF (k := 10) (i := 4) rfl rfl
    have mv1 : v1 = X.1 10 4 := ev1
    refine x_icmp_ge (tgt := 70) C dX7_nextMan_50 (by decide) ⟨by omega, by omega⟩ ⟨by omega, by omega⟩ (fun h2 => ?_) (fun h2 => ?_)
    · refine x_iload_n (i := 2) C dX7_nextMan_70 rfl rfl ?_
      exact x_iret C hQ dX7_nextMan_71 (⟨rfl, _, rfl, nmt_l hl hw (by omega)⟩)
    · refine x_aload_n (i := 0) C dX7_nextMan_53 rfl rfl ?_
      refine x_iload_n (i := 3) C dX7_nextMan_54 rfl rfl ?_
      refine x_iload_n (i := 1) C dX7_nextMan_55 rfl rfl ?_
      refine x_callV (As := [.int (iI (i)), .int (iI (q))]) C (by exact (xf_isSt101_10 (k := i) q0 q1 hb hH (by omega) (by omega))) ckX7_46 im_X7_isStanding se_X7_isStanding (nlt rfl) rfl rfl rfl rfl (nle rfl) (by exact ⟨nle rfl, nle rfl⟩) dX7_nextMan_56 ?_
      rintro _ Xv3 ⟨hxv3, v3, rfl, ev3⟩
      rw [hxv3]
      refine Wx_st (st' := [.int (iI (v3))]) rfl ?_
      refine x_if_eq (tgt := 64) C dX7_nextMan_59 (by decide) ⟨by omega, by omega⟩ (fun h4 => ?_) (fun h4 => ?_)
      · refine x_iinc (lv' := [(3, .int (iI (i + 1))), (2, .int (iI (l))), (0, .ref 101), (1, .int (iI (q)))]) C dX7_nextMan_64 rfl (nlt rfl) rfl ?_
        refine x_goto (tgt := 42) C dX7_nextMan_67 (by decide) ?_
        refine Wx_pick [3, 2, 0, 1] ?_
        refine Wx_lv (lv' := [(3, .int (iI (i + 1))), (2, .int (iI (l))), (0, .ref 101), (1, .int (iI (q)))]) rfl ?_
        exact ih _ _ (by omega) (by omega) (by omega) (by omega) hl (bhd_n (by omega) hw (ev3.elim (fun t => by exfalso; have := t.1; omega) (fun t => t.2)))
      · refine x_iload_n (i := 3) C dX7_nextMan_62 rfl rfl ?_
        exact x_iret C hQ dX7_nextMan_63 (⟨rfl, _, rfl, nmt_i (by omega) (by omega) (by omega) hw (ev3.elim (fun t => t.2) (fun t => by exfalso; have := t.1; omega))⟩)
set_option maxHeartbeats 4000000 in
set_option maxRecDepth 100000 in
theorem xl_nxA101_10 {D : va_G} {ad : Nat → Nat} {cA : Nat → ClassId} {X : XT} {q : Int} (q0 : 0 ≤ q) (q1 : q ≤ 1) (hb : X.2.2 101 0 = some 10) (hH : HG vX X) {E : ET} (C : CX E (wX D ad cA) cX7_nextMan 4 RX7 (some .int) { frames := 1, cells := 0, slots := 0, locals := 22 }) (hQ : EQ E (wX D ad cA) (fun r X' => X' = X ∧ ∃ u : Int, r = some (.int (iI u)) ∧ NMT (X.1 10 4) (X.1 11) (X.1 102) (X.1 103 q.toNat) q u)) : ∀ (n : Nat) (i : Int) (l : Int), i + 1 < n → -1 ≤ i → i < (X.1 10 4) → LST (X.1 10 4) (X.1 11) (X.1 102) q i l → Wx E (wX D ad cA) 4 (PX (wX D ad cA) X) 12 [(3, .int (iI (i))), (2, .int (iI (l))), (0, .ref 101), (1, .int (iI (q)))] [] := by
  intro n
  induction n with
  | zero => intro i l hn i0 i1 hl; exfalso; omega
  | succ n ih =>
    intro i l hn i0 i1 hl
    have hm : (0 : Int) ≤ (X.1 10 4) ∧ (X.1 10 4) ≤ 6 := hH.rF (k := 10) (i := 4) (p := (0, 6)) rfl rfl
    have lb := lst_b hl
    refine x_iload_n (i := 3) C dX7_nextMan_12 rfl rfl ?_
    refine x_if_lt (tgt := 33) C dX7_nextMan_13 (by decide) ⟨by omega, by omega⟩ (fun h1 => ?_) (fun h1 => ?_)
    · refine x_aload_n (i := 0) C dX7_nextMan_33 rfl rfl ?_
      refine x_getRs (r := 103) C fkX_X7_15 (nlt rfl) rfl (HG.rR hH (k := 101) (i := 4) rfl rfl) dX7_nextMan_34 ?_
      refine x_iload_n (i := 1) C dX7_nextMan_37 rfl rfl ?_
      refine x_iald C (nlt rfl) rfl rfl (nle rfl) (by omega) (by omega) dX7_nextMan_38 ?_
      refine x_gen (fun v2 ev2 => ?_)
      have qv2 : ((-1) : Int) ≤ v2 ∧ v2 ≤ (0 : Int) := by
        rw [ev2]
        exact hH.rA (k := 103) (n := 2) (p := ((-1), 0)) (nlt rfl) rfl (by decide +kernel) (by omega)
      refine x_iconst C dX7_nextMan_39 ?_
      refine x_iadd C dX7_nextMan_40 ?_
      refine x_gen (fun v3 ev3 => ?_)
      refine x_istore_n (i := 3) (lv' := [(3, .int (iI (v3))), (2, .int (iI (l))), (0, .ref 101), (1, .int (iI (q)))]) C dX7_nextMan_41 rfl (nlt rfl) rfl ?_
      refine Wx_pick [3, 2, 0, 1] ?_
      refine Wx_lv (lv' := [(3, .int (iI (v3))), (2, .int (iI (l))), (0, .ref 101), (1, .int (iI (q)))]) rfl ?_
      exact xl_nxB101_10 q0 q1 hb hH C hQ 8 _ _ (by omega) (by omega) (by omega) (by omega) (by rw [show i = -1 by omega] at hl; exact hl) (bhd_0 (by omega))
    · refine x_aload_n (i := 0) C dX7_nextMan_16 rfl rfl ?_
      refine x_iload_n (i := 3) C dX7_nextMan_17 rfl rfl ?_
      refine x_iload_n (i := 1) C dX7_nextMan_18 rfl rfl ?_
      refine x_callV (As := [.int (iI (i)), .int (iI (q))]) C (by exact (xf_isSt101_10 (k := i) q0 q1 hb hH (by omega) (by omega))) ckX7_46 im_X7_isStanding se_X7_isStanding (nlt rfl) rfl rfl rfl rfl (nle rfl) (by exact ⟨nle rfl, nle rfl⟩) dX7_nextMan_19 ?_
      rintro _ Xv4 ⟨hxv4, v4, rfl, ev4⟩
      rw [hxv4]
      refine Wx_st (st' := [.int (iI (v4))]) rfl ?_
      refine x_if_eq (tgt := 27) C dX7_nextMan_22 (by decide) ⟨by omega, by omega⟩ (fun h5 => ?_) (fun h5 => ?_)
      · refine x_iinc (lv' := [(3, .int (iI (i + (-1)))), (2, .int (iI (l))), (0, .ref 101), (1, .int (iI (q)))]) C dX7_nextMan_27 rfl (nlt rfl) rfl ?_
        refine x_goto (tgt := 12) C dX7_nextMan_30 (by decide) ?_
        refine Wx_pick [3, 2, 0, 1] ?_
        refine Wx_lv (lv' := [(3, .int (iI (i + (-1)))), (2, .int (iI (l))), (0, .ref 101), (1, .int (iI (q)))]) rfl ?_
        exact ih _ _ (by omega) (by omega) (by omega) (lst_n (by omega) hl (ev4.elim (fun t => by exfalso; have := t.1; omega) (fun t => t.2)))
      · refine x_iload_n (i := 3) C dX7_nextMan_25 rfl rfl ?_
        refine x_istore_n (i := 2) (lv' := [(2, .int (iI (i))), (3, .int (iI (i))), (0, .ref 101), (1, .int (iI (q)))]) C dX7_nextMan_26 rfl (nlt rfl) rfl ?_
        refine x_iinc (lv' := [(3, .int (iI (i + (-1)))), (2, .int (iI (i))), (0, .ref 101), (1, .int (iI (q)))]) C dX7_nextMan_27 rfl (nlt rfl) rfl ?_
        refine x_goto (tgt := 12) C dX7_nextMan_30 (by decide) ?_
        refine Wx_pick [3, 2, 0, 1] ?_
        refine Wx_lv (lv' := [(3, .int (iI (i + (-1)))), (2, .int (iI (i))), (0, .ref 101), (1, .int (iI (q)))]) rfl ?_
        exact ih _ _ (by omega) (by omega) (by omega) (lst_y (by omega) i1 hl (ev4.elim (fun t => t.2) (fun t => by exfalso; have := t.1; omega)))
set_option maxHeartbeats 4000000 in
set_option maxRecDepth 100000 in
theorem xf_nextMan101_10 {D : va_G} {ad : Nat → Nat} {cA : Nat → ClassId} {X : XT} {q : Int} (q0 : 0 ≤ q) (q1 : q ≤ 1) (hb : X.2.2 101 0 = some 10) (hH : HG vX X) : MetX (wX D ad cA) yX7_nextMan cX7_nextMan 4 (some .int) 1 22 [.ref 101, .int (iI (q))] X (fun r X' => X' = X ∧ ∃ u : Int, r = some (.int (iI u)) ∧ NMT (X.1 10 4) (X.1 11) (X.1 102) (X.1 103 q.toNat) q u) := by
  have hm : (0 : Int) ≤ (X.1 10 4) ∧ (X.1 10 4) ≤ 6 := hH.rF (k := 10) (i := 4) (p := (0, 6)) rfl rfl
  refine MetX.mk (own := RX7) (by decide +kernel) rfl (nle rfl) (fun E C hQ => ?_)
  refine Wx_lv (lv' := [(0, .ref 101), (1, .int (iI (q)))]) rfl ?_
  refine x_iconst C dX7_nextMan_0 ?_
  refine x_istore_n (i := 2) (lv' := [(2, .int (iI ((-1)))), (0, .ref 101), (1, .int (iI (q)))]) C dX7_nextMan_1 rfl (nlt rfl) rfl ?_
  refine x_aload_n (i := 0) C dX7_nextMan_2 rfl rfl ?_
  refine x_getRs (r := 10) C fkX_X7_18 (nlt rfl) rfl hb dX7_nextMan_3 ?_
  refine x_getI C fkX_X7_43 (nlt rfl) rfl dX7_nextMan_6 ?_
  refine x_gen (fun v1 ev1 => ?_)
  have qv1 : (0 : Int) ≤ v1 ∧ v1 ≤ (6 : Int) := by
    rw [ev1]
    exact hH.rF (k := 10) (i := 4) rfl rfl
  have mv1 : v1 = X.1 10 4 := ev1
  refine x_iconst C dX7_nextMan_9 ?_
  refine x_isub C dX7_nextMan_10 ?_
  refine x_gen (fun v2 ev2 => ?_)
  refine x_istore_n (i := 3) (lv' := [(3, .int (iI (v2))), (2, .int (iI ((-1)))), (0, .ref 101), (1, .int (iI (q)))]) C dX7_nextMan_11 rfl (nlt rfl) rfl ?_
  refine Wx_pick [3, 2, 0, 1] ?_
  refine Wx_lv (lv' := [(3, .int (iI (v2))), (2, .int (iI ((-1)))), (0, .ref 101), (1, .int (iI (q)))]) rfl ?_
  exact xl_nxA101_10 q0 q1 hb hH C hQ 8 _ (-1) (by omega) (by omega) (by omega) (lst_0 (by omega))
set_option maxRecDepth 10000 in
theorem t_X_307 {D : va_G} {ad : Nat → Nat} {cA : Nat → ClassId} : CTR mtX vX gX (wX D ad cA) k_X_307 := by
  intro g X hpre
  obtain ⟨h00, hei, hel, hdl, hH, hE⟩ := hpre
  have h0 : (0 : Int) ≤ g.1 0 ∧ g.1 0 ≤ (0 : Int) := hei 0 _ rfl
  have h1 : (0 : Int) ≤ g.1 1 ∧ g.1 1 ≤ (1 : Int) := hei 1 _ rfl
  have h2 : ((-2147483648) : Int) ≤ g.1 2 ∧ g.1 2 ≤ (2147483647 : Int) := hei 2 _ rfl
  have h3 : ((-2147483648) : Int) ≤ g.1 3 ∧ g.1 3 ≤ (2147483647 : Int) := hei 3 _ rfl
  have h4 : ((-2147483648) : Int) ≤ g.1 4 ∧ g.1 4 ≤ (2147483647 : Int) := hei 4 _ rfl
  have h5 : ((-2147483648) : Int) ≤ g.1 5 ∧ g.1 5 ≤ (2147483647 : Int) := hei 5 _ rfl
  have h6 : ((-2147483648) : Int) ≤ g.1 6 ∧ g.1 6 ≤ (2147483647 : Int) := hei 6 _ rfl
  have h7 : ((-2147483648) : Int) ≤ g.1 7 ∧ g.1 7 ≤ (2147483647 : Int) := hei 7 _ rfl
  have hb : X.2.2 101 0 = some 10 := hdl ((101, 0), (2, 10, 0)) (.head _)
  have f0 : X.1 11 0 = g.1 2 + 0 := (hdl ((11, 0), (0, 2, 0)) (.tail _ (.head _)))
  have f1 : X.1 11 1 = g.1 3 + 0 := (hdl ((11, 1), (0, 3, 0)) (.tail _ (.tail _ (.head _))))
  have f2 : X.1 11 2 = g.1 4 + 0 := (hdl ((11, 2), (0, 4, 0)) (.tail _ (.tail _ (.tail _ (.head _)))))
  have f3 : X.1 11 3 = g.1 5 + 0 := (hdl ((11, 3), (0, 5, 0)) (.tail _ (.tail _ (.tail _ (.tail _ (.head _))))))
  have f4 : X.1 11 4 = g.1 6 + 0 := (hdl ((11, 4), (0, 6, 0)) (.tail _ (.tail _ (.tail _ (.tail _ (.tail _ (.head _)))))))
  have f5 : X.1 11 5 = g.1 7 + 0 := (hdl ((11, 5), (0, 7, 0)) (.tail _ (.tail _ (.tail _ (.tail _ (.tail _ (.tail _ (.head _))))))))
  have hm : (0 : Int) ≤ (X.1 10 4) ∧ (X.1 10 4) ≤ 6 := hH.rF (k := 10) (i := 4) (p := (0, 6)) rfl rfl
  refine MetX.imp (fun r X1 hp => ?_) (xf_nextMan101_10 (X := X) (q := g.1 1 + 0) (by omega) (by omega) hb hH)
  obtain ⟨rfl, u, rfl, hu⟩ := hp
  rcases nmt_c hu with rfl | ⟨u0, u1, u2⟩
  · exact (altM_mk 0 [(-1)] rfl (ei_cons ⟨by show (0 : Int) ≤ g.1 0; omega, by show g.1 0 ≤ (0 : Int); omega⟩ (ei_cons ⟨by show (0 : Int) ≤ g.1 1; omega, by show g.1 1 ≤ (1 : Int); omega⟩ (ei_cons ⟨by show ((-2147483648) : Int) ≤ g.1 2; omega, by show g.1 2 ≤ (2147483647 : Int); omega⟩ (ei_cons ⟨by show ((-2147483648) : Int) ≤ g.1 3; omega, by show g.1 3 ≤ (2147483647 : Int); omega⟩ (ei_cons ⟨by show ((-2147483648) : Int) ≤ g.1 4; omega, by show g.1 4 ≤ (2147483647 : Int); omega⟩ (ei_cons ⟨by show ((-2147483648) : Int) ≤ g.1 5; omega, by show g.1 5 ≤ (2147483647 : Int); omega⟩ (ei_cons ⟨by show ((-2147483648) : Int) ≤ g.1 6; omega, by show g.1 6 ≤ (2147483647 : Int); omega⟩ (ei_cons ⟨by show ((-2147483648) : Int) ≤ g.1 7; omega, by show g.1 7 ≤ (2147483647 : Int); omega⟩ (ei_cons ⟨by show ((-1) : Int) ≤ (-1); omega, by show (-1) ≤ ((-1) : Int); omega⟩ ei_nil))))))))) el_nil (by rfl) dl_nil gd_nil hH hE FR.rf)
  rcases (show u = 0 ∨ u = 1 ∨ u = 2 ∨ u = 3 ∨ u = 4 ∨ u = 5 by omega) with rfl | rfl | rfl | rfl | rfl | rfl
  · have z : X1.1 11 0 = g.1 1 + 0 := u2
    exact (altM_mk 1 [0] rfl (ei_cons ⟨by show (0 : Int) ≤ g.1 0; omega, by show g.1 0 ≤ (0 : Int); omega⟩ (ei_cons ⟨by show (0 : Int) ≤ g.1 1; omega, by show g.1 1 ≤ (1 : Int); omega⟩ (ei_cons ⟨by show (0 : Int) ≤ g.1 2; omega, by show g.1 2 ≤ (1 : Int); omega⟩ (ei_cons ⟨by show ((-2147483648) : Int) ≤ g.1 3; omega, by show g.1 3 ≤ (2147483647 : Int); omega⟩ (ei_cons ⟨by show ((-2147483648) : Int) ≤ g.1 4; omega, by show g.1 4 ≤ (2147483647 : Int); omega⟩ (ei_cons ⟨by show ((-2147483648) : Int) ≤ g.1 5; omega, by show g.1 5 ≤ (2147483647 : Int); omega⟩ (ei_cons ⟨by show ((-2147483648) : Int) ≤ g.1 6; omega, by show g.1 6 ≤ (2147483647 : Int); omega⟩ (ei_cons ⟨by show ((-2147483648) : Int) ≤ g.1 7; omega, by show g.1 7 ≤ (2147483647 : Int); omega⟩ (ei_cons ⟨by show (0 : Int) ≤ 0; omega, by show 0 ≤ (0 : Int); omega⟩ ei_nil))))))))) el_nil (by rfl) dl_nil gd_nil hH hE FR.rf)
  · have z : X1.1 11 1 = g.1 1 + 0 := u2
    exact (altM_mk 2 [1] rfl (ei_cons ⟨by show (0 : Int) ≤ g.1 0; omega, by show g.1 0 ≤ (0 : Int); omega⟩ (ei_cons ⟨by show (0 : Int) ≤ g.1 1; omega, by show g.1 1 ≤ (1 : Int); omega⟩ (ei_cons ⟨by show ((-2147483648) : Int) ≤ g.1 2; omega, by show g.1 2 ≤ (2147483647 : Int); omega⟩ (ei_cons ⟨by show (0 : Int) ≤ g.1 3; omega, by show g.1 3 ≤ (1 : Int); omega⟩ (ei_cons ⟨by show ((-2147483648) : Int) ≤ g.1 4; omega, by show g.1 4 ≤ (2147483647 : Int); omega⟩ (ei_cons ⟨by show ((-2147483648) : Int) ≤ g.1 5; omega, by show g.1 5 ≤ (2147483647 : Int); omega⟩ (ei_cons ⟨by show ((-2147483648) : Int) ≤ g.1 6; omega, by show g.1 6 ≤ (2147483647 : Int); omega⟩ (ei_cons ⟨by show ((-2147483648) : Int) ≤ g.1 7; omega, by show g.1 7 ≤ (2147483647 : Int); omega⟩ (ei_cons ⟨by show (1 : Int) ≤ 1; omega, by show 1 ≤ (1 : Int); omega⟩ ei_nil))))))))) el_nil (by rfl) dl_nil gd_nil hH hE FR.rf)
  · have z : X1.1 11 2 = g.1 1 + 0 := u2
    exact (altM_mk 3 [2] rfl (ei_cons ⟨by show (0 : Int) ≤ g.1 0; omega, by show g.1 0 ≤ (0 : Int); omega⟩ (ei_cons ⟨by show (0 : Int) ≤ g.1 1; omega, by show g.1 1 ≤ (1 : Int); omega⟩ (ei_cons ⟨by show ((-2147483648) : Int) ≤ g.1 2; omega, by show g.1 2 ≤ (2147483647 : Int); omega⟩ (ei_cons ⟨by show ((-2147483648) : Int) ≤ g.1 3; omega, by show g.1 3 ≤ (2147483647 : Int); omega⟩ (ei_cons ⟨by show (0 : Int) ≤ g.1 4; omega, by show g.1 4 ≤ (1 : Int); omega⟩ (ei_cons ⟨by show ((-2147483648) : Int) ≤ g.1 5; omega, by show g.1 5 ≤ (2147483647 : Int); omega⟩ (ei_cons ⟨by show ((-2147483648) : Int) ≤ g.1 6; omega, by show g.1 6 ≤ (2147483647 : Int); omega⟩ (ei_cons ⟨by show ((-2147483648) : Int) ≤ g.1 7; omega, by show g.1 7 ≤ (2147483647 : Int); omega⟩ (ei_cons ⟨by show (2 : Int) ≤ 2; omega, by show 2 ≤ (2 : Int); omega⟩ ei_nil))))))))) el_nil (by rfl) dl_nil gd_nil hH hE FR.rf)
  · have z : X1.1 11 3 = g.1 1 + 0 := u2
    exact (altM_mk 4 [3] rfl (ei_cons ⟨by show (0 : Int) ≤ g.1 0; omega, by show g.1 0 ≤ (0 : Int); omega⟩ (ei_cons ⟨by show (0 : Int) ≤ g.1 1; omega, by show g.1 1 ≤ (1 : Int); omega⟩ (ei_cons ⟨by show ((-2147483648) : Int) ≤ g.1 2; omega, by show g.1 2 ≤ (2147483647 : Int); omega⟩ (ei_cons ⟨by show ((-2147483648) : Int) ≤ g.1 3; omega, by show g.1 3 ≤ (2147483647 : Int); omega⟩ (ei_cons ⟨by show ((-2147483648) : Int) ≤ g.1 4; omega, by show g.1 4 ≤ (2147483647 : Int); omega⟩ (ei_cons ⟨by show (0 : Int) ≤ g.1 5; omega, by show g.1 5 ≤ (1 : Int); omega⟩ (ei_cons ⟨by show ((-2147483648) : Int) ≤ g.1 6; omega, by show g.1 6 ≤ (2147483647 : Int); omega⟩ (ei_cons ⟨by show ((-2147483648) : Int) ≤ g.1 7; omega, by show g.1 7 ≤ (2147483647 : Int); omega⟩ (ei_cons ⟨by show (3 : Int) ≤ 3; omega, by show 3 ≤ (3 : Int); omega⟩ ei_nil))))))))) el_nil (by rfl) dl_nil gd_nil hH hE FR.rf)
  · have z : X1.1 11 4 = g.1 1 + 0 := u2
    exact (altM_mk 5 [4] rfl (ei_cons ⟨by show (0 : Int) ≤ g.1 0; omega, by show g.1 0 ≤ (0 : Int); omega⟩ (ei_cons ⟨by show (0 : Int) ≤ g.1 1; omega, by show g.1 1 ≤ (1 : Int); omega⟩ (ei_cons ⟨by show ((-2147483648) : Int) ≤ g.1 2; omega, by show g.1 2 ≤ (2147483647 : Int); omega⟩ (ei_cons ⟨by show ((-2147483648) : Int) ≤ g.1 3; omega, by show g.1 3 ≤ (2147483647 : Int); omega⟩ (ei_cons ⟨by show ((-2147483648) : Int) ≤ g.1 4; omega, by show g.1 4 ≤ (2147483647 : Int); omega⟩ (ei_cons ⟨by show ((-2147483648) : Int) ≤ g.1 5; omega, by show g.1 5 ≤ (2147483647 : Int); omega⟩ (ei_cons ⟨by show (0 : Int) ≤ g.1 6; omega, by show g.1 6 ≤ (1 : Int); omega⟩ (ei_cons ⟨by show ((-2147483648) : Int) ≤ g.1 7; omega, by show g.1 7 ≤ (2147483647 : Int); omega⟩ (ei_cons ⟨by show (4 : Int) ≤ 4; omega, by show 4 ≤ (4 : Int); omega⟩ ei_nil))))))))) el_nil (by rfl) dl_nil gd_nil hH hE FR.rf)
  · have z : X1.1 11 5 = g.1 1 + 0 := u2
    exact (altM_mk 6 [5] rfl (ei_cons ⟨by show (0 : Int) ≤ g.1 0; omega, by show g.1 0 ≤ (0 : Int); omega⟩ (ei_cons ⟨by show (0 : Int) ≤ g.1 1; omega, by show g.1 1 ≤ (1 : Int); omega⟩ (ei_cons ⟨by show ((-2147483648) : Int) ≤ g.1 2; omega, by show g.1 2 ≤ (2147483647 : Int); omega⟩ (ei_cons ⟨by show ((-2147483648) : Int) ≤ g.1 3; omega, by show g.1 3 ≤ (2147483647 : Int); omega⟩ (ei_cons ⟨by show ((-2147483648) : Int) ≤ g.1 4; omega, by show g.1 4 ≤ (2147483647 : Int); omega⟩ (ei_cons ⟨by show ((-2147483648) : Int) ≤ g.1 5; omega, by show g.1 5 ≤ (2147483647 : Int); omega⟩ (ei_cons ⟨by show ((-2147483648) : Int) ≤ g.1 6; omega, by show g.1 6 ≤ (2147483647 : Int); omega⟩ (ei_cons ⟨by show (0 : Int) ≤ g.1 7; omega, by show g.1 7 ≤ (1 : Int); omega⟩ (ei_cons ⟨by show (5 : Int) ≤ 5; omega, by show 5 ≤ (5 : Int); omega⟩ ei_nil))))))))) el_nil (by rfl) dl_nil gd_nil hH hE FR.rf)
set_option maxHeartbeats 4000000 in
set_option maxRecDepth 100000 in
theorem xf_isSt98_10 {D : va_G} {ad : Nat → Nat} {cA : Nat → ClassId} {X : XT} {q k : Int} (q0 : 0 ≤ q) (q1 : q ≤ 1) (hb : X.2.2 98 0 = some 10) (hH : HG vX X) (k0 : 0 ≤ k) (k5 : k ≤ 5) : MetX (wX D ad cA) yX7_isStanding cX7_isStanding 3 (some .boolean) 0 0 [.ref 98, .int (iI (k)), .int (iI (q))] X (fun r X' => X' = X ∧ ∃ u : Int, r = some (.int (iI u)) ∧ ((u = 1 ∧ SNT (X.1 11) (X.1 99) q k.toNat) ∨ (u = 0 ∧ ¬ SNT (X.1 11) (X.1 99) q k.toNat))) := by
  refine MetX.mk (own := RX7) (by decide +kernel) rfl (nle rfl) (fun E C hQ => ?_)
  refine Wx_lv (lv' := [(0, .ref 98), (1, .int (iI (k))), (2, .int (iI (q)))]) rfl ?_
  refine x_aload_n (i := 0) C dX7_isStanding_0 rfl rfl ?_
  refine x_getRs (r := 10) C fkX_X7_18 (nlt rfl) rfl hb dX7_isStanding_1 ?_
  refine x_getRs (r := 11) C fkX_X7_40 (nlt rfl) rfl (HG.rR hH (k := 10) (i := 5) rfl rfl) dX7_isStanding_4 ?_
  refine x_iload_n (i := 1) C dX7_isStanding_7 rfl rfl ?_
  refine x_iald C (nlt rfl) rfl rfl (nle rfl) (by omega) (by omega) dX7_isStanding_8 ?_
  refine x_gen (fun v1 ev1 => ?_)
  have qv1 : ((-2147483648) : Int) ≤ v1 ∧ v1 ≤ (2147483647 : Int) := by
    rw [ev1]
    exact hH.rA (k := 11) (n := 6) (p := ((-2147483648), 2147483647)) (nlt rfl) rfl (by decide +kernel) (by omega)
  refine x_iload_n (i := 2) C dX7_isStanding_9 rfl rfl ?_
  refine x_icmp_ne (tgt := 27) C dX7_isStanding_10 (by decide) ⟨by omega, by omega⟩ ⟨by omega, by omega⟩ (fun h2 => ?_) (fun h2 => ?_)
  · refine x_iconst C dX7_isStanding_27 ?_
    exact x_zret C hQ (by omega) dX7_isStanding_28 (⟨rfl, _, rfl, .inr ⟨rfl, fun t => by have t1 := t.1; have t2 := t.2; omega⟩⟩)
  · refine x_aload_n (i := 0) C dX7_isStanding_13 rfl rfl ?_
    refine x_getRs (r := 99) C fkX_X7_9 (nlt rfl) rfl (HG.rR hH (k := 98) (i := 3) rfl rfl) dX7_isStanding_14 ?_
    refine x_iload_n (i := 1) C dX7_isStanding_17 rfl rfl ?_
    refine x_iald C (nlt rfl) rfl rfl (nle rfl) (by omega) (by omega) dX7_isStanding_18 ?_
    refine x_gen (fun v3 ev3 => ?_)
    have qv3 : ((-2147483648) : Int) ≤ v3 ∧ v3 ≤ (2147483647 : Int) := by
      rw [ev3]
      exact hH.rA (k := 99) (n := 6) (p := ((-2147483648), 2147483647)) (nlt rfl) rfl (by decide +kernel) (by omega)
    refine x_iconst C dX7_isStanding_19 ?_
    refine x_icmp_eq (tgt := 27) C dX7_isStanding_20 (by decide) ⟨by omega, by omega⟩ ⟨by omega, by omega⟩ (fun h4 => ?_) (fun h4 => ?_)
    · refine x_iconst C dX7_isStanding_27 ?_
      exact x_zret C hQ (by omega) dX7_isStanding_28 (⟨rfl, _, rfl, .inr ⟨rfl, fun t => by have t1 := t.1; have t2 := t.2; omega⟩⟩)
    · refine x_iconst C dX7_isStanding_23 ?_
      refine x_goto (tgt := 28) C dX7_isStanding_24 (by decide) ?_
      exact x_zret C hQ (by omega) dX7_isStanding_28 (⟨rfl, _, rfl, .inl ⟨rfl, by rw [← ev1]; omega, by rw [← ev3]; omega⟩⟩)
set_option maxHeartbeats 4000000 in
set_option maxRecDepth 100000 in
theorem xl_nxB98_10 {D : va_G} {ad : Nat → Nat} {cA : Nat → ClassId} {X : XT} {q : Int} (q0 : 0 ≤ q) (q1 : q ≤ 1) (hb : X.2.2 98 0 = some 10) (hH : HG vX X) {E : ET} (C : CX E (wX D ad cA) cX7_nextMan 4 RX7 (some .int) { frames := 1, cells := 0, slots := 0, locals := 22 }) (hQ : EQ E (wX D ad cA) (fun r X' => X' = X ∧ ∃ u : Int, r = some (.int (iI u)) ∧ NMT (X.1 10 4) (X.1 11) (X.1 99) (X.1 100 q.toNat) q u)) : ∀ (n : Nat) (i : Int) (l : Int), 7 - i < n → 0 ≤ i → i ≤ 6 → X.1 100 q.toNat < i → LST (X.1 10 4) (X.1 11) (X.1 99) q (-1) l → BHD (X.1 11) (X.1 99) q (X.1 100 q.toNat) i → Wx E (wX D ad cA) 4 (PX (wX D ad cA) X) 42 [(3, .int (iI (i))), (2, .int (iI (l))), (0, .ref 98), (1, .int (iI (q)))] [] := by
  intro n
  induction n with
  | zero => intro i l hn i0 i1 iw hl hw; exfalso; omega
  | succ n ih =>
    intro i l hn i0 i1 iw hl hw
    have hm : (0 : Int) ≤ (X.1 10 4) ∧ (X.1 10 4) ≤ 6 := hH.rF (k := 10) (i := 4) (p := (0, 6)) rfl rfl
    have lb := lst_b hl
    refine x_iload_n (i := 3) C dX7_nextMan_42 rfl rfl ?_
    refine x_aload_n (i := 0) C dX7_nextMan_43 rfl rfl ?_
    refine x_getRs (r := 10) C fkX_X7_18 (nlt rfl) rfl hb dX7_nextMan_44 ?_
    refine x_getI C fkX_X7_43 (nlt rfl) rfl dX7_nextMan_47 ?_
    refine x_gen (fun v1 ev1 => ?_)
    have qv1 : (0 : Int) ≤ v1 ∧ v1 ≤ (6 : Int) := by
      rw [ev1]
      exact hH.rF (k := 10) (i := 4) rfl rfl
    have mv1 : v1 = X.1 10 4 := ev1
    refine x_icmp_ge (tgt := 70) C dX7_nextMan_50 (by decide) ⟨by omega, by omega⟩ ⟨by omega, by omega⟩ (fun h2 => ?_) (fun h2 => ?_)
    · refine x_iload_n (i := 2) C dX7_nextMan_70 rfl rfl ?_
      exact x_iret C hQ dX7_nextMan_71 (⟨rfl, _, rfl, nmt_l hl hw (by omega)⟩)
    · refine x_aload_n (i := 0) C dX7_nextMan_53 rfl rfl ?_
      refine x_iload_n (i := 3) C dX7_nextMan_54 rfl rfl ?_
      refine x_iload_n (i := 1) C dX7_nextMan_55 rfl rfl ?_
      refine x_callV (As := [.int (iI (i)), .int (iI (q))]) C (by exact (xf_isSt98_10 (k := i) q0 q1 hb hH (by omega) (by omega))) ckX7_46 im_X7_isStanding se_X7_isStanding (nlt rfl) rfl rfl rfl rfl (nle rfl) (by exact ⟨nle rfl, nle rfl⟩) dX7_nextMan_56 ?_
      rintro _ Xv3 ⟨hxv3, v3, rfl, ev3⟩
      rw [hxv3]
      refine Wx_st (st' := [.int (iI (v3))]) rfl ?_
      refine x_if_eq (tgt := 64) C dX7_nextMan_59 (by decide) ⟨by omega, by omega⟩ (fun h4 => ?_) (fun h4 => ?_)
      · refine x_iinc (lv' := [(3, .int (iI (i + 1))), (2, .int (iI (l))), (0, .ref 98), (1, .int (iI (q)))]) C dX7_nextMan_64 rfl (nlt rfl) rfl ?_
        refine x_goto (tgt := 42) C dX7_nextMan_67 (by decide) ?_
        refine Wx_pick [3, 2, 0, 1] ?_
        refine Wx_lv (lv' := [(3, .int (iI (i + 1))), (2, .int (iI (l))), (0, .ref 98), (1, .int (iI (q)))]) rfl ?_
        exact ih _ _ (by omega) (by omega) (by omega) (by omega) hl (bhd_n (by omega) hw (ev3.elim (fun t => by exfalso; have := t.1; omega) (fun t => t.2)))
      · refine x_iload_n (i := 3) C dX7_nextMan_62 rfl rfl ?_
        exact x_iret C hQ dX7_nextMan_63 (⟨rfl, _, rfl, nmt_i (by omega) (by omega) (by omega) hw (ev3.elim (fun t => t.2) (fun t => by exfalso; have := t.1; omega))⟩)
set_option maxHeartbeats 4000000 in
set_option maxRecDepth 100000 in
theorem xl_nxA98_10 {D : va_G} {ad : Nat → Nat} {cA : Nat → ClassId} {X : XT} {q : Int} (q0 : 0 ≤ q) (q1 : q ≤ 1) (hb : X.2.2 98 0 = some 10) (hH : HG vX X) {E : ET} (C : CX E (wX D ad cA) cX7_nextMan 4 RX7 (some .int) { frames := 1, cells := 0, slots := 0, locals := 22 }) (hQ : EQ E (wX D ad cA) (fun r X' => X' = X ∧ ∃ u : Int, r = some (.int (iI u)) ∧ NMT (X.1 10 4) (X.1 11) (X.1 99) (X.1 100 q.toNat) q u)) : ∀ (n : Nat) (i : Int) (l : Int), i + 1 < n → -1 ≤ i → i < (X.1 10 4) → LST (X.1 10 4) (X.1 11) (X.1 99) q i l → Wx E (wX D ad cA) 4 (PX (wX D ad cA) X) 12 [(3, .int (iI (i))), (2, .int (iI (l))), (0, .ref 98), (1, .int (iI (q)))] [] := by
  intro n
  induction n with
  | zero => intro i l hn i0 i1 hl; exfalso; omega
  | succ n ih =>
    intro i l hn i0 i1 hl
    have hm : (0 : Int) ≤ (X.1 10 4) ∧ (X.1 10 4) ≤ 6 := hH.rF (k := 10) (i := 4) (p := (0, 6)) rfl rfl
    have lb := lst_b hl
    refine x_iload_n (i := 3) C dX7_nextMan_12 rfl rfl ?_
    refine x_if_lt (tgt := 33) C dX7_nextMan_13 (by decide) ⟨by omega, by omega⟩ (fun h1 => ?_) (fun h1 => ?_)
    · refine x_aload_n (i := 0) C dX7_nextMan_33 rfl rfl ?_
      refine x_getRs (r := 100) C fkX_X7_15 (nlt rfl) rfl (HG.rR hH (k := 98) (i := 4) rfl rfl) dX7_nextMan_34 ?_
      refine x_iload_n (i := 1) C dX7_nextMan_37 rfl rfl ?_
      refine x_iald C (nlt rfl) rfl rfl (nle rfl) (by omega) (by omega) dX7_nextMan_38 ?_
      refine x_gen (fun v2 ev2 => ?_)
      have qv2 : ((-1) : Int) ≤ v2 ∧ v2 ≤ (5 : Int) := by
        rw [ev2]
        exact hH.rA (k := 100) (n := 2) (p := ((-1), 5)) (nlt rfl) rfl (by decide +kernel) (by omega)
      refine x_iconst C dX7_nextMan_39 ?_
      refine x_iadd C dX7_nextMan_40 ?_
      refine x_gen (fun v3 ev3 => ?_)
      refine x_istore_n (i := 3) (lv' := [(3, .int (iI (v3))), (2, .int (iI (l))), (0, .ref 98), (1, .int (iI (q)))]) C dX7_nextMan_41 rfl (nlt rfl) rfl ?_
      refine Wx_pick [3, 2, 0, 1] ?_
      refine Wx_lv (lv' := [(3, .int (iI (v3))), (2, .int (iI (l))), (0, .ref 98), (1, .int (iI (q)))]) rfl ?_
      exact xl_nxB98_10 q0 q1 hb hH C hQ 8 _ _ (by omega) (by omega) (by omega) (by omega) (by rw [show i = -1 by omega] at hl; exact hl) (bhd_0 (by omega))
    · refine x_aload_n (i := 0) C dX7_nextMan_16 rfl rfl ?_
      refine x_iload_n (i := 3) C dX7_nextMan_17 rfl rfl ?_
      refine x_iload_n (i := 1) C dX7_nextMan_18 rfl rfl ?_
      refine x_callV (As := [.int (iI (i)), .int (iI (q))]) C (by exact (xf_isSt98_10 (k := i) q0 q1 hb hH (by omega) (by omega))) ckX7_46 im_X7_isStanding se_X7_isStanding (nlt rfl) rfl rfl rfl rfl (nle rfl) (by exact ⟨nle rfl, nle rfl⟩) dX7_nextMan_19 ?_
      rintro _ Xv4 ⟨hxv4, v4, rfl, ev4⟩
      rw [hxv4]
      refine Wx_st (st' := [.int (iI (v4))]) rfl ?_
      refine x_if_eq (tgt := 27) C dX7_nextMan_22 (by decide) ⟨by omega, by omega⟩ (fun h5 => ?_) (fun h5 => ?_)
      · refine x_iinc (lv' := [(3, .int (iI (i + (-1)))), (2, .int (iI (l))), (0, .ref 98), (1, .int (iI (q)))]) C dX7_nextMan_27 rfl (nlt rfl) rfl ?_
        refine x_goto (tgt := 12) C dX7_nextMan_30 (by decide) ?_
        refine Wx_pick [3, 2, 0, 1] ?_
        refine Wx_lv (lv' := [(3, .int (iI (i + (-1)))), (2, .int (iI (l))), (0, .ref 98), (1, .int (iI (q)))]) rfl ?_
        exact ih _ _ (by omega) (by omega) (by omega) (lst_n (by omega) hl (ev4.elim (fun t => by exfalso; have := t.1; omega) (fun t => t.2)))
      · refine x_iload_n (i := 3) C dX7_nextMan_25 rfl rfl ?_
        refine x_istore_n (i := 2) (lv' := [(2, .int (iI (i))), (3, .int (iI (i))), (0, .ref 98), (1, .int (iI (q)))]) C dX7_nextMan_26 rfl (nlt rfl) rfl ?_
        refine x_iinc (lv' := [(3, .int (iI (i + (-1)))), (2, .int (iI (i))), (0, .ref 98), (1, .int (iI (q)))]) C dX7_nextMan_27 rfl (nlt rfl) rfl ?_
        refine x_goto (tgt := 12) C dX7_nextMan_30 (by decide) ?_
        refine Wx_pick [3, 2, 0, 1] ?_
        refine Wx_lv (lv' := [(3, .int (iI (i + (-1)))), (2, .int (iI (i))), (0, .ref 98), (1, .int (iI (q)))]) rfl ?_
        exact ih _ _ (by omega) (by omega) (by omega) (lst_y (by omega) i1 hl (ev4.elim (fun t => t.2) (fun t => by exfalso; have := t.1; omega)))
set_option maxHeartbeats 4000000 in
set_option maxRecDepth 100000 in
theorem xf_nextMan98_10 {D : va_G} {ad : Nat → Nat} {cA : Nat → ClassId} {X : XT} {q : Int} (q0 : 0 ≤ q) (q1 : q ≤ 1) (hb : X.2.2 98 0 = some 10) (hH : HG vX X) : MetX (wX D ad cA) yX7_nextMan cX7_nextMan 4 (some .int) 1 22 [.ref 98, .int (iI (q))] X (fun r X' => X' = X ∧ ∃ u : Int, r = some (.int (iI u)) ∧ NMT (X.1 10 4) (X.1 11) (X.1 99) (X.1 100 q.toNat) q u) := by
  have hm : (0 : Int) ≤ (X.1 10 4) ∧ (X.1 10 4) ≤ 6 := hH.rF (k := 10) (i := 4) (p := (0, 6)) rfl rfl
  refine MetX.mk (own := RX7) (by decide +kernel) rfl (nle rfl) (fun E C hQ => ?_)
  refine Wx_lv (lv' := [(0, .ref 98), (1, .int (iI (q)))]) rfl ?_
  refine x_iconst C dX7_nextMan_0 ?_
  refine x_istore_n (i := 2) (lv' := [(2, .int (iI ((-1)))), (0, .ref 98), (1, .int (iI (q)))]) C dX7_nextMan_1 rfl (nlt rfl) rfl ?_
  refine x_aload_n (i := 0) C dX7_nextMan_2 rfl rfl ?_
  refine x_getRs (r := 10) C fkX_X7_18 (nlt rfl) rfl hb dX7_nextMan_3 ?_
  refine x_getI C fkX_X7_43 (nlt rfl) rfl dX7_nextMan_6 ?_
  refine x_gen (fun v1 ev1 => ?_)
  have qv1 : (0 : Int) ≤ v1 ∧ v1 ≤ (6 : Int) := by
    rw [ev1]
    exact hH.rF (k := 10) (i := 4) rfl rfl
  have mv1 : v1 = X.1 10 4 := ev1
  refine x_iconst C dX7_nextMan_9 ?_
  refine x_isub C dX7_nextMan_10 ?_
  refine x_gen (fun v2 ev2 => ?_)
  refine x_istore_n (i := 3) (lv' := [(3, .int (iI (v2))), (2, .int (iI ((-1)))), (0, .ref 98), (1, .int (iI (q)))]) C dX7_nextMan_11 rfl (nlt rfl) rfl ?_
  refine Wx_pick [3, 2, 0, 1] ?_
  refine Wx_lv (lv' := [(3, .int (iI (v2))), (2, .int (iI ((-1)))), (0, .ref 98), (1, .int (iI (q)))]) rfl ?_
  exact xl_nxA98_10 q0 q1 hb hH C hQ 8 _ (-1) (by omega) (by omega) (by omega) (lst_0 (by omega))
set_option maxRecDepth 10000 in
theorem t_X_312 {D : va_G} {ad : Nat → Nat} {cA : Nat → ClassId} : CTR mtX vX gX (wX D ad cA) k_X_312 := by
  intro g X hpre
  obtain ⟨h00, hei, hel, hdl, hH, hE⟩ := hpre
  have h0 : (0 : Int) ≤ g.1 0 ∧ g.1 0 ≤ (0 : Int) := hei 0 _ rfl
  have h1 : (0 : Int) ≤ g.1 1 ∧ g.1 1 ≤ (1 : Int) := hei 1 _ rfl
  have h2 : ((-2147483648) : Int) ≤ g.1 2 ∧ g.1 2 ≤ (2147483647 : Int) := hei 2 _ rfl
  have h3 : ((-2147483648) : Int) ≤ g.1 3 ∧ g.1 3 ≤ (2147483647 : Int) := hei 3 _ rfl
  have h4 : ((-2147483648) : Int) ≤ g.1 4 ∧ g.1 4 ≤ (2147483647 : Int) := hei 4 _ rfl
  have h5 : ((-2147483648) : Int) ≤ g.1 5 ∧ g.1 5 ≤ (2147483647 : Int) := hei 5 _ rfl
  have h6 : ((-2147483648) : Int) ≤ g.1 6 ∧ g.1 6 ≤ (2147483647 : Int) := hei 6 _ rfl
  have h7 : ((-2147483648) : Int) ≤ g.1 7 ∧ g.1 7 ≤ (2147483647 : Int) := hei 7 _ rfl
  have hb : X.2.2 98 0 = some 10 := hdl ((98, 0), (2, 10, 0)) (.head _)
  have f0 : X.1 11 0 = g.1 2 + 0 := (hdl ((11, 0), (0, 2, 0)) (.tail _ (.head _)))
  have f1 : X.1 11 1 = g.1 3 + 0 := (hdl ((11, 1), (0, 3, 0)) (.tail _ (.tail _ (.head _))))
  have f2 : X.1 11 2 = g.1 4 + 0 := (hdl ((11, 2), (0, 4, 0)) (.tail _ (.tail _ (.tail _ (.head _)))))
  have f3 : X.1 11 3 = g.1 5 + 0 := (hdl ((11, 3), (0, 5, 0)) (.tail _ (.tail _ (.tail _ (.tail _ (.head _))))))
  have f4 : X.1 11 4 = g.1 6 + 0 := (hdl ((11, 4), (0, 6, 0)) (.tail _ (.tail _ (.tail _ (.tail _ (.tail _ (.head _)))))))
  have f5 : X.1 11 5 = g.1 7 + 0 := (hdl ((11, 5), (0, 7, 0)) (.tail _ (.tail _ (.tail _ (.tail _ (.tail _ (.tail _ (.head _))))))))
  have hm : (0 : Int) ≤ (X.1 10 4) ∧ (X.1 10 4) ≤ 6 := hH.rF (k := 10) (i := 4) (p := (0, 6)) rfl rfl
  refine MetX.imp (fun r X1 hp => ?_) (xf_nextMan98_10 (X := X) (q := g.1 1 + 0) (by omega) (by omega) hb hH)
  obtain ⟨rfl, u, rfl, hu⟩ := hp
  rcases nmt_c hu with rfl | ⟨u0, u1, u2⟩
  · exact (altM_mk 0 [(-1)] rfl (ei_cons ⟨by show (0 : Int) ≤ g.1 0; omega, by show g.1 0 ≤ (0 : Int); omega⟩ (ei_cons ⟨by show (0 : Int) ≤ g.1 1; omega, by show g.1 1 ≤ (1 : Int); omega⟩ (ei_cons ⟨by show ((-2147483648) : Int) ≤ g.1 2; omega, by show g.1 2 ≤ (2147483647 : Int); omega⟩ (ei_cons ⟨by show ((-2147483648) : Int) ≤ g.1 3; omega, by show g.1 3 ≤ (2147483647 : Int); omega⟩ (ei_cons ⟨by show ((-2147483648) : Int) ≤ g.1 4; omega, by show g.1 4 ≤ (2147483647 : Int); omega⟩ (ei_cons ⟨by show ((-2147483648) : Int) ≤ g.1 5; omega, by show g.1 5 ≤ (2147483647 : Int); omega⟩ (ei_cons ⟨by show ((-2147483648) : Int) ≤ g.1 6; omega, by show g.1 6 ≤ (2147483647 : Int); omega⟩ (ei_cons ⟨by show ((-2147483648) : Int) ≤ g.1 7; omega, by show g.1 7 ≤ (2147483647 : Int); omega⟩ (ei_cons ⟨by show ((-1) : Int) ≤ (-1); omega, by show (-1) ≤ ((-1) : Int); omega⟩ ei_nil))))))))) el_nil (by rfl) dl_nil gd_nil hH hE FR.rf)
  rcases (show u = 0 ∨ u = 1 ∨ u = 2 ∨ u = 3 ∨ u = 4 ∨ u = 5 by omega) with rfl | rfl | rfl | rfl | rfl | rfl
  · have z : X1.1 11 0 = g.1 1 + 0 := u2
    exact (altM_mk 1 [0] rfl (ei_cons ⟨by show (0 : Int) ≤ g.1 0; omega, by show g.1 0 ≤ (0 : Int); omega⟩ (ei_cons ⟨by show (0 : Int) ≤ g.1 1; omega, by show g.1 1 ≤ (1 : Int); omega⟩ (ei_cons ⟨by show (0 : Int) ≤ g.1 2; omega, by show g.1 2 ≤ (1 : Int); omega⟩ (ei_cons ⟨by show ((-2147483648) : Int) ≤ g.1 3; omega, by show g.1 3 ≤ (2147483647 : Int); omega⟩ (ei_cons ⟨by show ((-2147483648) : Int) ≤ g.1 4; omega, by show g.1 4 ≤ (2147483647 : Int); omega⟩ (ei_cons ⟨by show ((-2147483648) : Int) ≤ g.1 5; omega, by show g.1 5 ≤ (2147483647 : Int); omega⟩ (ei_cons ⟨by show ((-2147483648) : Int) ≤ g.1 6; omega, by show g.1 6 ≤ (2147483647 : Int); omega⟩ (ei_cons ⟨by show ((-2147483648) : Int) ≤ g.1 7; omega, by show g.1 7 ≤ (2147483647 : Int); omega⟩ (ei_cons ⟨by show (0 : Int) ≤ 0; omega, by show 0 ≤ (0 : Int); omega⟩ ei_nil))))))))) el_nil (by rfl) dl_nil gd_nil hH hE FR.rf)
  · have z : X1.1 11 1 = g.1 1 + 0 := u2
    exact (altM_mk 2 [1] rfl (ei_cons ⟨by show (0 : Int) ≤ g.1 0; omega, by show g.1 0 ≤ (0 : Int); omega⟩ (ei_cons ⟨by show (0 : Int) ≤ g.1 1; omega, by show g.1 1 ≤ (1 : Int); omega⟩ (ei_cons ⟨by show ((-2147483648) : Int) ≤ g.1 2; omega, by show g.1 2 ≤ (2147483647 : Int); omega⟩ (ei_cons ⟨by show (0 : Int) ≤ g.1 3; omega, by show g.1 3 ≤ (1 : Int); omega⟩ (ei_cons ⟨by show ((-2147483648) : Int) ≤ g.1 4; omega, by show g.1 4 ≤ (2147483647 : Int); omega⟩ (ei_cons ⟨by show ((-2147483648) : Int) ≤ g.1 5; omega, by show g.1 5 ≤ (2147483647 : Int); omega⟩ (ei_cons ⟨by show ((-2147483648) : Int) ≤ g.1 6; omega, by show g.1 6 ≤ (2147483647 : Int); omega⟩ (ei_cons ⟨by show ((-2147483648) : Int) ≤ g.1 7; omega, by show g.1 7 ≤ (2147483647 : Int); omega⟩ (ei_cons ⟨by show (1 : Int) ≤ 1; omega, by show 1 ≤ (1 : Int); omega⟩ ei_nil))))))))) el_nil (by rfl) dl_nil gd_nil hH hE FR.rf)
  · have z : X1.1 11 2 = g.1 1 + 0 := u2
    exact (altM_mk 3 [2] rfl (ei_cons ⟨by show (0 : Int) ≤ g.1 0; omega, by show g.1 0 ≤ (0 : Int); omega⟩ (ei_cons ⟨by show (0 : Int) ≤ g.1 1; omega, by show g.1 1 ≤ (1 : Int); omega⟩ (ei_cons ⟨by show ((-2147483648) : Int) ≤ g.1 2; omega, by show g.1 2 ≤ (2147483647 : Int); omega⟩ (ei_cons ⟨by show ((-2147483648) : Int) ≤ g.1 3; omega, by show g.1 3 ≤ (2147483647 : Int); omega⟩ (ei_cons ⟨by show (0 : Int) ≤ g.1 4; omega, by show g.1 4 ≤ (1 : Int); omega⟩ (ei_cons ⟨by show ((-2147483648) : Int) ≤ g.1 5; omega, by show g.1 5 ≤ (2147483647 : Int); omega⟩ (ei_cons ⟨by show ((-2147483648) : Int) ≤ g.1 6; omega, by show g.1 6 ≤ (2147483647 : Int); omega⟩ (ei_cons ⟨by show ((-2147483648) : Int) ≤ g.1 7; omega, by show g.1 7 ≤ (2147483647 : Int); omega⟩ (ei_cons ⟨by show (2 : Int) ≤ 2; omega, by show 2 ≤ (2 : Int); omega⟩ ei_nil))))))))) el_nil (by rfl) dl_nil gd_nil hH hE FR.rf)
  · have z : X1.1 11 3 = g.1 1 + 0 := u2
    exact (altM_mk 4 [3] rfl (ei_cons ⟨by show (0 : Int) ≤ g.1 0; omega, by show g.1 0 ≤ (0 : Int); omega⟩ (ei_cons ⟨by show (0 : Int) ≤ g.1 1; omega, by show g.1 1 ≤ (1 : Int); omega⟩ (ei_cons ⟨by show ((-2147483648) : Int) ≤ g.1 2; omega, by show g.1 2 ≤ (2147483647 : Int); omega⟩ (ei_cons ⟨by show ((-2147483648) : Int) ≤ g.1 3; omega, by show g.1 3 ≤ (2147483647 : Int); omega⟩ (ei_cons ⟨by show ((-2147483648) : Int) ≤ g.1 4; omega, by show g.1 4 ≤ (2147483647 : Int); omega⟩ (ei_cons ⟨by show (0 : Int) ≤ g.1 5; omega, by show g.1 5 ≤ (1 : Int); omega⟩ (ei_cons ⟨by show ((-2147483648) : Int) ≤ g.1 6; omega, by show g.1 6 ≤ (2147483647 : Int); omega⟩ (ei_cons ⟨by show ((-2147483648) : Int) ≤ g.1 7; omega, by show g.1 7 ≤ (2147483647 : Int); omega⟩ (ei_cons ⟨by show (3 : Int) ≤ 3; omega, by show 3 ≤ (3 : Int); omega⟩ ei_nil))))))))) el_nil (by rfl) dl_nil gd_nil hH hE FR.rf)
  · have z : X1.1 11 4 = g.1 1 + 0 := u2
    exact (altM_mk 5 [4] rfl (ei_cons ⟨by show (0 : Int) ≤ g.1 0; omega, by show g.1 0 ≤ (0 : Int); omega⟩ (ei_cons ⟨by show (0 : Int) ≤ g.1 1; omega, by show g.1 1 ≤ (1 : Int); omega⟩ (ei_cons ⟨by show ((-2147483648) : Int) ≤ g.1 2; omega, by show g.1 2 ≤ (2147483647 : Int); omega⟩ (ei_cons ⟨by show ((-2147483648) : Int) ≤ g.1 3; omega, by show g.1 3 ≤ (2147483647 : Int); omega⟩ (ei_cons ⟨by show ((-2147483648) : Int) ≤ g.1 4; omega, by show g.1 4 ≤ (2147483647 : Int); omega⟩ (ei_cons ⟨by show ((-2147483648) : Int) ≤ g.1 5; omega, by show g.1 5 ≤ (2147483647 : Int); omega⟩ (ei_cons ⟨by show (0 : Int) ≤ g.1 6; omega, by show g.1 6 ≤ (1 : Int); omega⟩ (ei_cons ⟨by show ((-2147483648) : Int) ≤ g.1 7; omega, by show g.1 7 ≤ (2147483647 : Int); omega⟩ (ei_cons ⟨by show (4 : Int) ≤ 4; omega, by show 4 ≤ (4 : Int); omega⟩ ei_nil))))))))) el_nil (by rfl) dl_nil gd_nil hH hE FR.rf)
  · have z : X1.1 11 5 = g.1 1 + 0 := u2
    exact (altM_mk 6 [5] rfl (ei_cons ⟨by show (0 : Int) ≤ g.1 0; omega, by show g.1 0 ≤ (0 : Int); omega⟩ (ei_cons ⟨by show (0 : Int) ≤ g.1 1; omega, by show g.1 1 ≤ (1 : Int); omega⟩ (ei_cons ⟨by show ((-2147483648) : Int) ≤ g.1 2; omega, by show g.1 2 ≤ (2147483647 : Int); omega⟩ (ei_cons ⟨by show ((-2147483648) : Int) ≤ g.1 3; omega, by show g.1 3 ≤ (2147483647 : Int); omega⟩ (ei_cons ⟨by show ((-2147483648) : Int) ≤ g.1 4; omega, by show g.1 4 ≤ (2147483647 : Int); omega⟩ (ei_cons ⟨by show ((-2147483648) : Int) ≤ g.1 5; omega, by show g.1 5 ≤ (2147483647 : Int); omega⟩ (ei_cons ⟨by show ((-2147483648) : Int) ≤ g.1 6; omega, by show g.1 6 ≤ (2147483647 : Int); omega⟩ (ei_cons ⟨by show (0 : Int) ≤ g.1 7; omega, by show g.1 7 ≤ (1 : Int); omega⟩ (ei_cons ⟨by show (5 : Int) ≤ 5; omega, by show 5 ≤ (5 : Int); omega⟩ ei_nil))))))))) el_nil (by rfl) dl_nil gd_nil hH hE FR.rf)
set_option maxHeartbeats 4000000 in
set_option maxRecDepth 100000 in
theorem xf_isSt95_10 {D : va_G} {ad : Nat → Nat} {cA : Nat → ClassId} {X : XT} {q k : Int} (q0 : 0 ≤ q) (q1 : q ≤ 1) (hb : X.2.2 95 0 = some 10) (hH : HG vX X) (k0 : 0 ≤ k) (k5 : k ≤ 5) : MetX (wX D ad cA) yX7_isStanding cX7_isStanding 3 (some .boolean) 0 0 [.ref 95, .int (iI (k)), .int (iI (q))] X (fun r X' => X' = X ∧ ∃ u : Int, r = some (.int (iI u)) ∧ ((u = 1 ∧ SNT (X.1 11) (X.1 96) q k.toNat) ∨ (u = 0 ∧ ¬ SNT (X.1 11) (X.1 96) q k.toNat))) := by
  refine MetX.mk (own := RX7) (by decide +kernel) rfl (nle rfl) (fun E C hQ => ?_)
  refine Wx_lv (lv' := [(0, .ref 95), (1, .int (iI (k))), (2, .int (iI (q)))]) rfl ?_
  refine x_aload_n (i := 0) C dX7_isStanding_0 rfl rfl ?_
  refine x_getRs (r := 10) C fkX_X7_18 (nlt rfl) rfl hb dX7_isStanding_1 ?_
  refine x_getRs (r := 11) C fkX_X7_40 (nlt rfl) rfl (HG.rR hH (k := 10) (i := 5) rfl rfl) dX7_isStanding_4 ?_
  refine x_iload_n (i := 1) C dX7_isStanding_7 rfl rfl ?_
  refine x_iald C (nlt rfl) rfl rfl (nle rfl) (by omega) (by omega) dX7_isStanding_8 ?_
  refine x_gen (fun v1 ev1 => ?_)
  have qv1 : ((-2147483648) : Int) ≤ v1 ∧ v1 ≤ (2147483647 : Int) := by
    rw [ev1]
    exact hH.rA (k := 11) (n := 6) (p := ((-2147483648), 2147483647)) (nlt rfl) rfl (by decide +kernel) (by omega)
  refine x_iload_n (i := 2) C dX7_isStanding_9 rfl rfl ?_
  refine x_icmp_ne (tgt := 27) C dX7_isStanding_10 (by decide) ⟨by omega, by omega⟩ ⟨by omega, by omega⟩ (fun h2 => ?_) (fun h2 => ?_)
  · refine x_iconst C dX7_isStanding_27 ?_
    exact x_zret C hQ (by omega) dX7_isStanding_28 (⟨rfl, _, rfl, .inr ⟨rfl, fun t => by have t1 := t.1; have t2 := t.2; omega⟩⟩)
  · refine x_aload_n (i := 0) C dX7_isStanding_13 rfl rfl ?_
    refine x_getRs (r := 96) C fkX_X7_9 (nlt rfl) rfl (HG.rR hH (k := 95) (i := 3) rfl rfl) dX7_isStanding_14 ?_
    refine x_iload_n (i := 1) C dX7_isStanding_17 rfl rfl ?_
    refine x_iald C (nlt rfl) rfl rfl (nle rfl) (by omega) (by omega) dX7_isStanding_18 ?_
    refine x_gen (fun v3 ev3 => ?_)
    have qv3 : ((-2147483648) : Int) ≤ v3 ∧ v3 ≤ (2147483647 : Int) := by
      rw [ev3]
      exact hH.rA (k := 96) (n := 6) (p := ((-2147483648), 2147483647)) (nlt rfl) rfl (by decide +kernel) (by omega)
    refine x_iconst C dX7_isStanding_19 ?_
    refine x_icmp_eq (tgt := 27) C dX7_isStanding_20 (by decide) ⟨by omega, by omega⟩ ⟨by omega, by omega⟩ (fun h4 => ?_) (fun h4 => ?_)
    · refine x_iconst C dX7_isStanding_27 ?_
      exact x_zret C hQ (by omega) dX7_isStanding_28 (⟨rfl, _, rfl, .inr ⟨rfl, fun t => by have t1 := t.1; have t2 := t.2; omega⟩⟩)
    · refine x_iconst C dX7_isStanding_23 ?_
      refine x_goto (tgt := 28) C dX7_isStanding_24 (by decide) ?_
      exact x_zret C hQ (by omega) dX7_isStanding_28 (⟨rfl, _, rfl, .inl ⟨rfl, by rw [← ev1]; omega, by rw [← ev3]; omega⟩⟩)
set_option maxHeartbeats 4000000 in
set_option maxRecDepth 100000 in
theorem xl_nxB95_10 {D : va_G} {ad : Nat → Nat} {cA : Nat → ClassId} {X : XT} {q : Int} (q0 : 0 ≤ q) (q1 : q ≤ 1) (hb : X.2.2 95 0 = some 10) (hH : HG vX X) {E : ET} (C : CX E (wX D ad cA) cX7_nextMan 4 RX7 (some .int) { frames := 1, cells := 0, slots := 0, locals := 22 }) (hQ : EQ E (wX D ad cA) (fun r X' => X' = X ∧ ∃ u : Int, r = some (.int (iI u)) ∧ NMT (X.1 10 4) (X.1 11) (X.1 96) (X.1 97 q.toNat) q u)) : ∀ (n : Nat) (i : Int) (l : Int), 7 - i < n → 0 ≤ i → i ≤ 6 → X.1 97 q.toNat < i → LST (X.1 10 4) (X.1 11) (X.1 96) q (-1) l → BHD (X.1 11) (X.1 96) q (X.1 97 q.toNat) i → Wx E (wX D ad cA) 4 (PX (wX D ad cA) X) 42 [(3, .int (iI (i))), (2, .int (iI (l))), (0, .ref 95), (1, .int (iI (q)))] [] := by
  intro n
  induction n with
  | zero => intro i l hn i0 i1 iw hl hw; exfalso; omega
  | succ n ih =>
    intro i l hn i0 i1 iw hl hw
    have hm : (0 : Int) ≤ (X.1 10 4) ∧ (X.1 10 4) ≤ 6 := hH.rF (k := 10) (i := 4) (p := (0, 6)) rfl rfl
    have lb := lst_b hl
    refine x_iload_n (i := 3) C dX7_nextMan_42 rfl rfl ?_
    refine x_aload_n (i := 0) C dX7_nextMan_43 rfl rfl ?_
    refine x_getRs (r := 10) C fkX_X7_18 (nlt rfl) rfl hb dX7_nextMan_44 ?_
    refine x_getI C fkX_X7_43 (nlt rfl) rfl dX7_nextMan_47 ?_
    refine x_gen (fun v1 ev1 => ?_)
    have qv1 : (0 : Int) ≤ v1 ∧ v1 ≤ (6 : Int) := by
      rw [ev1]
      exact hH.rF (k := 10) (i := 4) rfl rfl
    have mv1 : v1 = X.1 10 4 := ev1
    refine x_icmp_ge (tgt := 70) C dX7_nextMan_50 (by decide) ⟨by omega, by omega⟩ ⟨by omega, by omega⟩ (fun h2 => ?_) (fun h2 => ?_)
    · refine x_iload_n (i := 2) C dX7_nextMan_70 rfl rfl ?_
      exact x_iret C hQ dX7_nextMan_71 (⟨rfl, _, rfl, nmt_l hl hw (by omega)⟩)
    · refine x_aload_n (i := 0) C dX7_nextMan_53 rfl rfl ?_
      refine x_iload_n (i := 3) C dX7_nextMan_54 rfl rfl ?_
      refine x_iload_n (i := 1) C dX7_nextMan_55 rfl rfl ?_
      refine x_callV (As := [.int (iI (i)), .int (iI (q))]) C (by exact (xf_isSt95_10 (k := i) q0 q1 hb hH (by omega) (by omega))) ckX7_46 im_X7_isStanding se_X7_isStanding (nlt rfl) rfl rfl rfl rfl (nle rfl) (by exact ⟨nle rfl, nle rfl⟩) dX7_nextMan_56 ?_
      rintro _ Xv3 ⟨hxv3, v3, rfl, ev3⟩
      rw [hxv3]
      refine Wx_st (st' := [.int (iI (v3))]) rfl ?_
      refine x_if_eq (tgt := 64) C dX7_nextMan_59 (by decide) ⟨by omega, by omega⟩ (fun h4 => ?_) (fun h4 => ?_)
      · refine x_iinc (lv' := [(3, .int (iI (i + 1))), (2, .int (iI (l))), (0, .ref 95), (1, .int (iI (q)))]) C dX7_nextMan_64 rfl (nlt rfl) rfl ?_
        refine x_goto (tgt := 42) C dX7_nextMan_67 (by decide) ?_
        refine Wx_pick [3, 2, 0, 1] ?_
        refine Wx_lv (lv' := [(3, .int (iI (i + 1))), (2, .int (iI (l))), (0, .ref 95), (1, .int (iI (q)))]) rfl ?_
        exact ih _ _ (by omega) (by omega) (by omega) (by omega) hl (bhd_n (by omega) hw (ev3.elim (fun t => by exfalso; have := t.1; omega) (fun t => t.2)))
      · refine x_iload_n (i := 3) C dX7_nextMan_62 rfl rfl ?_
        exact x_iret C hQ dX7_nextMan_63 (⟨rfl, _, rfl, nmt_i (by omega) (by omega) (by omega) hw (ev3.elim (fun t => t.2) (fun t => by exfalso; have := t.1; omega))⟩)
set_option maxHeartbeats 4000000 in
set_option maxRecDepth 100000 in
theorem xl_nxA95_10 {D : va_G} {ad : Nat → Nat} {cA : Nat → ClassId} {X : XT} {q : Int} (q0 : 0 ≤ q) (q1 : q ≤ 1) (hb : X.2.2 95 0 = some 10) (hH : HG vX X) {E : ET} (C : CX E (wX D ad cA) cX7_nextMan 4 RX7 (some .int) { frames := 1, cells := 0, slots := 0, locals := 22 }) (hQ : EQ E (wX D ad cA) (fun r X' => X' = X ∧ ∃ u : Int, r = some (.int (iI u)) ∧ NMT (X.1 10 4) (X.1 11) (X.1 96) (X.1 97 q.toNat) q u)) : ∀ (n : Nat) (i : Int) (l : Int), i + 1 < n → -1 ≤ i → i < (X.1 10 4) → LST (X.1 10 4) (X.1 11) (X.1 96) q i l → Wx E (wX D ad cA) 4 (PX (wX D ad cA) X) 12 [(3, .int (iI (i))), (2, .int (iI (l))), (0, .ref 95), (1, .int (iI (q)))] [] := by
  intro n
  induction n with
  | zero => intro i l hn i0 i1 hl; exfalso; omega
  | succ n ih =>
    intro i l hn i0 i1 hl
    have hm : (0 : Int) ≤ (X.1 10 4) ∧ (X.1 10 4) ≤ 6 := hH.rF (k := 10) (i := 4) (p := (0, 6)) rfl rfl
    have lb := lst_b hl
    refine x_iload_n (i := 3) C dX7_nextMan_12 rfl rfl ?_
    refine x_if_lt (tgt := 33) C dX7_nextMan_13 (by decide) ⟨by omega, by omega⟩ (fun h1 => ?_) (fun h1 => ?_)
    · refine x_aload_n (i := 0) C dX7_nextMan_33 rfl rfl ?_
      refine x_getRs (r := 97) C fkX_X7_15 (nlt rfl) rfl (HG.rR hH (k := 95) (i := 4) rfl rfl) dX7_nextMan_34 ?_
      refine x_iload_n (i := 1) C dX7_nextMan_37 rfl rfl ?_
      refine x_iald C (nlt rfl) rfl rfl (nle rfl) (by omega) (by omega) dX7_nextMan_38 ?_
      refine x_gen (fun v2 ev2 => ?_)
      have qv2 : ((-1) : Int) ≤ v2 ∧ v2 ≤ (5 : Int) := by
        rw [ev2]
        exact hH.rA (k := 97) (n := 2) (p := ((-1), 5)) (nlt rfl) rfl (by decide +kernel) (by omega)
      refine x_iconst C dX7_nextMan_39 ?_
      refine x_iadd C dX7_nextMan_40 ?_
      refine x_gen (fun v3 ev3 => ?_)
      refine x_istore_n (i := 3) (lv' := [(3, .int (iI (v3))), (2, .int (iI (l))), (0, .ref 95), (1, .int (iI (q)))]) C dX7_nextMan_41 rfl (nlt rfl) rfl ?_
      refine Wx_pick [3, 2, 0, 1] ?_
      refine Wx_lv (lv' := [(3, .int (iI (v3))), (2, .int (iI (l))), (0, .ref 95), (1, .int (iI (q)))]) rfl ?_
      exact xl_nxB95_10 q0 q1 hb hH C hQ 8 _ _ (by omega) (by omega) (by omega) (by omega) (by rw [show i = -1 by omega] at hl; exact hl) (bhd_0 (by omega))
    · refine x_aload_n (i := 0) C dX7_nextMan_16 rfl rfl ?_
      refine x_iload_n (i := 3) C dX7_nextMan_17 rfl rfl ?_
      refine x_iload_n (i := 1) C dX7_nextMan_18 rfl rfl ?_
      refine x_callV (As := [.int (iI (i)), .int (iI (q))]) C (by exact (xf_isSt95_10 (k := i) q0 q1 hb hH (by omega) (by omega))) ckX7_46 im_X7_isStanding se_X7_isStanding (nlt rfl) rfl rfl rfl rfl (nle rfl) (by exact ⟨nle rfl, nle rfl⟩) dX7_nextMan_19 ?_
      rintro _ Xv4 ⟨hxv4, v4, rfl, ev4⟩
      rw [hxv4]
      refine Wx_st (st' := [.int (iI (v4))]) rfl ?_
      refine x_if_eq (tgt := 27) C dX7_nextMan_22 (by decide) ⟨by omega, by omega⟩ (fun h5 => ?_) (fun h5 => ?_)
      · refine x_iinc (lv' := [(3, .int (iI (i + (-1)))), (2, .int (iI (l))), (0, .ref 95), (1, .int (iI (q)))]) C dX7_nextMan_27 rfl (nlt rfl) rfl ?_
        refine x_goto (tgt := 12) C dX7_nextMan_30 (by decide) ?_
        refine Wx_pick [3, 2, 0, 1] ?_
        refine Wx_lv (lv' := [(3, .int (iI (i + (-1)))), (2, .int (iI (l))), (0, .ref 95), (1, .int (iI (q)))]) rfl ?_
        exact ih _ _ (by omega) (by omega) (by omega) (lst_n (by omega) hl (ev4.elim (fun t => by exfalso; have := t.1; omega) (fun t => t.2)))
      · refine x_iload_n (i := 3) C dX7_nextMan_25 rfl rfl ?_
        refine x_istore_n (i := 2) (lv' := [(2, .int (iI (i))), (3, .int (iI (i))), (0, .ref 95), (1, .int (iI (q)))]) C dX7_nextMan_26 rfl (nlt rfl) rfl ?_
        refine x_iinc (lv' := [(3, .int (iI (i + (-1)))), (2, .int (iI (i))), (0, .ref 95), (1, .int (iI (q)))]) C dX7_nextMan_27 rfl (nlt rfl) rfl ?_
        refine x_goto (tgt := 12) C dX7_nextMan_30 (by decide) ?_
        refine Wx_pick [3, 2, 0, 1] ?_
        refine Wx_lv (lv' := [(3, .int (iI (i + (-1)))), (2, .int (iI (i))), (0, .ref 95), (1, .int (iI (q)))]) rfl ?_
        exact ih _ _ (by omega) (by omega) (by omega) (lst_y (by omega) i1 hl (ev4.elim (fun t => t.2) (fun t => by exfalso; have := t.1; omega)))
set_option maxHeartbeats 4000000 in
set_option maxRecDepth 100000 in
theorem xf_nextMan95_10 {D : va_G} {ad : Nat → Nat} {cA : Nat → ClassId} {X : XT} {q : Int} (q0 : 0 ≤ q) (q1 : q ≤ 1) (hb : X.2.2 95 0 = some 10) (hH : HG vX X) : MetX (wX D ad cA) yX7_nextMan cX7_nextMan 4 (some .int) 1 22 [.ref 95, .int (iI (q))] X (fun r X' => X' = X ∧ ∃ u : Int, r = some (.int (iI u)) ∧ NMT (X.1 10 4) (X.1 11) (X.1 96) (X.1 97 q.toNat) q u) := by
  have hm : (0 : Int) ≤ (X.1 10 4) ∧ (X.1 10 4) ≤ 6 := hH.rF (k := 10) (i := 4) (p := (0, 6)) rfl rfl
  refine MetX.mk (own := RX7) (by decide +kernel) rfl (nle rfl) (fun E C hQ => ?_)
  refine Wx_lv (lv' := [(0, .ref 95), (1, .int (iI (q)))]) rfl ?_
  refine x_iconst C dX7_nextMan_0 ?_
  refine x_istore_n (i := 2) (lv' := [(2, .int (iI ((-1)))), (0, .ref 95), (1, .int (iI (q)))]) C dX7_nextMan_1 rfl (nlt rfl) rfl ?_
  refine x_aload_n (i := 0) C dX7_nextMan_2 rfl rfl ?_
  refine x_getRs (r := 10) C fkX_X7_18 (nlt rfl) rfl hb dX7_nextMan_3 ?_
  refine x_getI C fkX_X7_43 (nlt rfl) rfl dX7_nextMan_6 ?_
  refine x_gen (fun v1 ev1 => ?_)
  have qv1 : (0 : Int) ≤ v1 ∧ v1 ≤ (6 : Int) := by
    rw [ev1]
    exact hH.rF (k := 10) (i := 4) rfl rfl
  have mv1 : v1 = X.1 10 4 := ev1
  refine x_iconst C dX7_nextMan_9 ?_
  refine x_isub C dX7_nextMan_10 ?_
  refine x_gen (fun v2 ev2 => ?_)
  refine x_istore_n (i := 3) (lv' := [(3, .int (iI (v2))), (2, .int (iI ((-1)))), (0, .ref 95), (1, .int (iI (q)))]) C dX7_nextMan_11 rfl (nlt rfl) rfl ?_
  refine Wx_pick [3, 2, 0, 1] ?_
  refine Wx_lv (lv' := [(3, .int (iI (v2))), (2, .int (iI ((-1)))), (0, .ref 95), (1, .int (iI (q)))]) rfl ?_
  exact xl_nxA95_10 q0 q1 hb hH C hQ 8 _ (-1) (by omega) (by omega) (by omega) (lst_0 (by omega))
set_option maxRecDepth 10000 in
theorem t_X_327 {D : va_G} {ad : Nat → Nat} {cA : Nat → ClassId} : CTR mtX vX gX (wX D ad cA) k_X_327 := by
  intro g X hpre
  obtain ⟨h00, hei, hel, hdl, hH, hE⟩ := hpre
  have h0 : (0 : Int) ≤ g.1 0 ∧ g.1 0 ≤ (0 : Int) := hei 0 _ rfl
  have h1 : (0 : Int) ≤ g.1 1 ∧ g.1 1 ≤ (1 : Int) := hei 1 _ rfl
  have h2 : ((-2147483648) : Int) ≤ g.1 2 ∧ g.1 2 ≤ (2147483647 : Int) := hei 2 _ rfl
  have h3 : ((-2147483648) : Int) ≤ g.1 3 ∧ g.1 3 ≤ (2147483647 : Int) := hei 3 _ rfl
  have h4 : ((-2147483648) : Int) ≤ g.1 4 ∧ g.1 4 ≤ (2147483647 : Int) := hei 4 _ rfl
  have h5 : ((-2147483648) : Int) ≤ g.1 5 ∧ g.1 5 ≤ (2147483647 : Int) := hei 5 _ rfl
  have h6 : ((-2147483648) : Int) ≤ g.1 6 ∧ g.1 6 ≤ (2147483647 : Int) := hei 6 _ rfl
  have h7 : ((-2147483648) : Int) ≤ g.1 7 ∧ g.1 7 ≤ (2147483647 : Int) := hei 7 _ rfl
  have hb : X.2.2 95 0 = some 10 := hdl ((95, 0), (2, 10, 0)) (.head _)
  have f0 : X.1 11 0 = g.1 2 + 0 := (hdl ((11, 0), (0, 2, 0)) (.tail _ (.head _)))
  have f1 : X.1 11 1 = g.1 3 + 0 := (hdl ((11, 1), (0, 3, 0)) (.tail _ (.tail _ (.head _))))
  have f2 : X.1 11 2 = g.1 4 + 0 := (hdl ((11, 2), (0, 4, 0)) (.tail _ (.tail _ (.tail _ (.head _)))))
  have f3 : X.1 11 3 = g.1 5 + 0 := (hdl ((11, 3), (0, 5, 0)) (.tail _ (.tail _ (.tail _ (.tail _ (.head _))))))
  have f4 : X.1 11 4 = g.1 6 + 0 := (hdl ((11, 4), (0, 6, 0)) (.tail _ (.tail _ (.tail _ (.tail _ (.tail _ (.head _)))))))
  have f5 : X.1 11 5 = g.1 7 + 0 := (hdl ((11, 5), (0, 7, 0)) (.tail _ (.tail _ (.tail _ (.tail _ (.tail _ (.tail _ (.head _))))))))
  have hm : (0 : Int) ≤ (X.1 10 4) ∧ (X.1 10 4) ≤ 6 := hH.rF (k := 10) (i := 4) (p := (0, 6)) rfl rfl
  refine MetX.imp (fun r X1 hp => ?_) (xf_nextMan95_10 (X := X) (q := g.1 1 + 0) (by omega) (by omega) hb hH)
  obtain ⟨rfl, u, rfl, hu⟩ := hp
  rcases nmt_c hu with rfl | ⟨u0, u1, u2⟩
  · exact (altM_mk 0 [(-1)] rfl (ei_cons ⟨by show (0 : Int) ≤ g.1 0; omega, by show g.1 0 ≤ (0 : Int); omega⟩ (ei_cons ⟨by show (0 : Int) ≤ g.1 1; omega, by show g.1 1 ≤ (1 : Int); omega⟩ (ei_cons ⟨by show ((-2147483648) : Int) ≤ g.1 2; omega, by show g.1 2 ≤ (2147483647 : Int); omega⟩ (ei_cons ⟨by show ((-2147483648) : Int) ≤ g.1 3; omega, by show g.1 3 ≤ (2147483647 : Int); omega⟩ (ei_cons ⟨by show ((-2147483648) : Int) ≤ g.1 4; omega, by show g.1 4 ≤ (2147483647 : Int); omega⟩ (ei_cons ⟨by show ((-2147483648) : Int) ≤ g.1 5; omega, by show g.1 5 ≤ (2147483647 : Int); omega⟩ (ei_cons ⟨by show ((-2147483648) : Int) ≤ g.1 6; omega, by show g.1 6 ≤ (2147483647 : Int); omega⟩ (ei_cons ⟨by show ((-2147483648) : Int) ≤ g.1 7; omega, by show g.1 7 ≤ (2147483647 : Int); omega⟩ (ei_cons ⟨by show ((-1) : Int) ≤ (-1); omega, by show (-1) ≤ ((-1) : Int); omega⟩ ei_nil))))))))) el_nil (by rfl) dl_nil gd_nil hH hE FR.rf)
  rcases (show u = 0 ∨ u = 1 ∨ u = 2 ∨ u = 3 ∨ u = 4 ∨ u = 5 by omega) with rfl | rfl | rfl | rfl | rfl | rfl
  · have z : X1.1 11 0 = g.1 1 + 0 := u2
    exact (altM_mk 1 [0] rfl (ei_cons ⟨by show (0 : Int) ≤ g.1 0; omega, by show g.1 0 ≤ (0 : Int); omega⟩ (ei_cons ⟨by show (0 : Int) ≤ g.1 1; omega, by show g.1 1 ≤ (1 : Int); omega⟩ (ei_cons ⟨by show (0 : Int) ≤ g.1 2; omega, by show g.1 2 ≤ (1 : Int); omega⟩ (ei_cons ⟨by show ((-2147483648) : Int) ≤ g.1 3; omega, by show g.1 3 ≤ (2147483647 : Int); omega⟩ (ei_cons ⟨by show ((-2147483648) : Int) ≤ g.1 4; omega, by show g.1 4 ≤ (2147483647 : Int); omega⟩ (ei_cons ⟨by show ((-2147483648) : Int) ≤ g.1 5; omega, by show g.1 5 ≤ (2147483647 : Int); omega⟩ (ei_cons ⟨by show ((-2147483648) : Int) ≤ g.1 6; omega, by show g.1 6 ≤ (2147483647 : Int); omega⟩ (ei_cons ⟨by show ((-2147483648) : Int) ≤ g.1 7; omega, by show g.1 7 ≤ (2147483647 : Int); omega⟩ (ei_cons ⟨by show (0 : Int) ≤ 0; omega, by show 0 ≤ (0 : Int); omega⟩ ei_nil))))))))) el_nil (by rfl) dl_nil gd_nil hH hE FR.rf)
  · have z : X1.1 11 1 = g.1 1 + 0 := u2
    exact (altM_mk 2 [1] rfl (ei_cons ⟨by show (0 : Int) ≤ g.1 0; omega, by show g.1 0 ≤ (0 : Int); omega⟩ (ei_cons ⟨by show (0 : Int) ≤ g.1 1; omega, by show g.1 1 ≤ (1 : Int); omega⟩ (ei_cons ⟨by show ((-2147483648) : Int) ≤ g.1 2; omega, by show g.1 2 ≤ (2147483647 : Int); omega⟩ (ei_cons ⟨by show (0 : Int) ≤ g.1 3; omega, by show g.1 3 ≤ (1 : Int); omega⟩ (ei_cons ⟨by show ((-2147483648) : Int) ≤ g.1 4; omega, by show g.1 4 ≤ (2147483647 : Int); omega⟩ (ei_cons ⟨by show ((-2147483648) : Int) ≤ g.1 5; omega, by show g.1 5 ≤ (2147483647 : Int); omega⟩ (ei_cons ⟨by show ((-2147483648) : Int) ≤ g.1 6; omega, by show g.1 6 ≤ (2147483647 : Int); omega⟩ (ei_cons ⟨by show ((-2147483648) : Int) ≤ g.1 7; omega, by show g.1 7 ≤ (2147483647 : Int); omega⟩ (ei_cons ⟨by show (1 : Int) ≤ 1; omega, by show 1 ≤ (1 : Int); omega⟩ ei_nil))))))))) el_nil (by rfl) dl_nil gd_nil hH hE FR.rf)
  · have z : X1.1 11 2 = g.1 1 + 0 := u2
    exact (altM_mk 3 [2] rfl (ei_cons ⟨by show (0 : Int) ≤ g.1 0; omega, by show g.1 0 ≤ (0 : Int); omega⟩ (ei_cons ⟨by show (0 : Int) ≤ g.1 1; omega, by show g.1 1 ≤ (1 : Int); omega⟩ (ei_cons ⟨by show ((-2147483648) : Int) ≤ g.1 2; omega, by show g.1 2 ≤ (2147483647 : Int); omega⟩ (ei_cons ⟨by show ((-2147483648) : Int) ≤ g.1 3; omega, by show g.1 3 ≤ (2147483647 : Int); omega⟩ (ei_cons ⟨by show (0 : Int) ≤ g.1 4; omega, by show g.1 4 ≤ (1 : Int); omega⟩ (ei_cons ⟨by show ((-2147483648) : Int) ≤ g.1 5; omega, by show g.1 5 ≤ (2147483647 : Int); omega⟩ (ei_cons ⟨by show ((-2147483648) : Int) ≤ g.1 6; omega, by show g.1 6 ≤ (2147483647 : Int); omega⟩ (ei_cons ⟨by show ((-2147483648) : Int) ≤ g.1 7; omega, by show g.1 7 ≤ (2147483647 : Int); omega⟩ (ei_cons ⟨by show (2 : Int) ≤ 2; omega, by show 2 ≤ (2 : Int); omega⟩ ei_nil))))))))) el_nil (by rfl) dl_nil gd_nil hH hE FR.rf)
  · have z : X1.1 11 3 = g.1 1 + 0 := u2
    exact (altM_mk 4 [3] rfl (ei_cons ⟨by show (0 : Int) ≤ g.1 0; omega, by show g.1 0 ≤ (0 : Int); omega⟩ (ei_cons ⟨by show (0 : Int) ≤ g.1 1; omega, by show g.1 1 ≤ (1 : Int); omega⟩ (ei_cons ⟨by show ((-2147483648) : Int) ≤ g.1 2; omega, by show g.1 2 ≤ (2147483647 : Int); omega⟩ (ei_cons ⟨by show ((-2147483648) : Int) ≤ g.1 3; omega, by show g.1 3 ≤ (2147483647 : Int); omega⟩ (ei_cons ⟨by show ((-2147483648) : Int) ≤ g.1 4; omega, by show g.1 4 ≤ (2147483647 : Int); omega⟩ (ei_cons ⟨by show (0 : Int) ≤ g.1 5; omega, by show g.1 5 ≤ (1 : Int); omega⟩ (ei_cons ⟨by show ((-2147483648) : Int) ≤ g.1 6; omega, by show g.1 6 ≤ (2147483647 : Int); omega⟩ (ei_cons ⟨by show ((-2147483648) : Int) ≤ g.1 7; omega, by show g.1 7 ≤ (2147483647 : Int); omega⟩ (ei_cons ⟨by show (3 : Int) ≤ 3; omega, by show 3 ≤ (3 : Int); omega⟩ ei_nil))))))))) el_nil (by rfl) dl_nil gd_nil hH hE FR.rf)
  · have z : X1.1 11 4 = g.1 1 + 0 := u2
    exact (altM_mk 5 [4] rfl (ei_cons ⟨by show (0 : Int) ≤ g.1 0; omega, by show g.1 0 ≤ (0 : Int); omega⟩ (ei_cons ⟨by show (0 : Int) ≤ g.1 1; omega, by show g.1 1 ≤ (1 : Int); omega⟩ (ei_cons ⟨by show ((-2147483648) : Int) ≤ g.1 2; omega, by show g.1 2 ≤ (2147483647 : Int); omega⟩ (ei_cons ⟨by show ((-2147483648) : Int) ≤ g.1 3; omega, by show g.1 3 ≤ (2147483647 : Int); omega⟩ (ei_cons ⟨by show ((-2147483648) : Int) ≤ g.1 4; omega, by show g.1 4 ≤ (2147483647 : Int); omega⟩ (ei_cons ⟨by show ((-2147483648) : Int) ≤ g.1 5; omega, by show g.1 5 ≤ (2147483647 : Int); omega⟩ (ei_cons ⟨by show (0 : Int) ≤ g.1 6; omega, by show g.1 6 ≤ (1 : Int); omega⟩ (ei_cons ⟨by show ((-2147483648) : Int) ≤ g.1 7; omega, by show g.1 7 ≤ (2147483647 : Int); omega⟩ (ei_cons ⟨by show (4 : Int) ≤ 4; omega, by show 4 ≤ (4 : Int); omega⟩ ei_nil))))))))) el_nil (by rfl) dl_nil gd_nil hH hE FR.rf)
  · have z : X1.1 11 5 = g.1 1 + 0 := u2
    exact (altM_mk 6 [5] rfl (ei_cons ⟨by show (0 : Int) ≤ g.1 0; omega, by show g.1 0 ≤ (0 : Int); omega⟩ (ei_cons ⟨by show (0 : Int) ≤ g.1 1; omega, by show g.1 1 ≤ (1 : Int); omega⟩ (ei_cons ⟨by show ((-2147483648) : Int) ≤ g.1 2; omega, by show g.1 2 ≤ (2147483647 : Int); omega⟩ (ei_cons ⟨by show ((-2147483648) : Int) ≤ g.1 3; omega, by show g.1 3 ≤ (2147483647 : Int); omega⟩ (ei_cons ⟨by show ((-2147483648) : Int) ≤ g.1 4; omega, by show g.1 4 ≤ (2147483647 : Int); omega⟩ (ei_cons ⟨by show ((-2147483648) : Int) ≤ g.1 5; omega, by show g.1 5 ≤ (2147483647 : Int); omega⟩ (ei_cons ⟨by show ((-2147483648) : Int) ≤ g.1 6; omega, by show g.1 6 ≤ (2147483647 : Int); omega⟩ (ei_cons ⟨by show (0 : Int) ≤ g.1 7; omega, by show g.1 7 ≤ (1 : Int); omega⟩ (ei_cons ⟨by show (5 : Int) ≤ 5; omega, by show 5 ≤ (5 : Int); omega⟩ ei_nil))))))))) el_nil (by rfl) dl_nil gd_nil hH hE FR.rf)
set_option maxHeartbeats 4000000 in
set_option maxRecDepth 100000 in
theorem xf_isSt92_10 {D : va_G} {ad : Nat → Nat} {cA : Nat → ClassId} {X : XT} {q k : Int} (q0 : 0 ≤ q) (q1 : q ≤ 1) (hb : X.2.2 92 0 = some 10) (hH : HG vX X) (k0 : 0 ≤ k) (k5 : k ≤ 5) : MetX (wX D ad cA) yX7_isStanding cX7_isStanding 3 (some .boolean) 0 0 [.ref 92, .int (iI (k)), .int (iI (q))] X (fun r X' => X' = X ∧ ∃ u : Int, r = some (.int (iI u)) ∧ ((u = 1 ∧ SNT (X.1 11) (X.1 93) q k.toNat) ∨ (u = 0 ∧ ¬ SNT (X.1 11) (X.1 93) q k.toNat))) := by
  refine MetX.mk (own := RX7) (by decide +kernel) rfl (nle rfl) (fun E C hQ => ?_)
  refine Wx_lv (lv' := [(0, .ref 92), (1, .int (iI (k))), (2, .int (iI (q)))]) rfl ?_
  refine x_aload_n (i := 0) C dX7_isStanding_0 rfl rfl ?_
  refine x_getRs (r := 10) C fkX_X7_18 (nlt rfl) rfl hb dX7_isStanding_1 ?_
  refine x_getRs (r := 11) C fkX_X7_40 (nlt rfl) rfl (HG.rR hH (k := 10) (i := 5) rfl rfl) dX7_isStanding_4 ?_
  refine x_iload_n (i := 1) C dX7_isStanding_7 rfl rfl ?_
  refine x_iald C (nlt rfl) rfl rfl (nle rfl) (by omega) (by omega) dX7_isStanding_8 ?_
  refine x_gen (fun v1 ev1 => ?_)
  have qv1 : ((-2147483648) : Int) ≤ v1 ∧ v1 ≤ (2147483647 : Int) := by
    rw [ev1]
    exact hH.rA (k := 11) (n := 6) (p := ((-2147483648), 2147483647)) (nlt rfl) rfl (by decide +kernel) (by omega)
  refine x_iload_n (i := 2) C dX7_isStanding_9 rfl rfl ?_
  refine x_icmp_ne (tgt := 27) C dX7_isStanding_10 (by decide) ⟨by omega, by omega⟩ ⟨by omega, by omega⟩ (fun h2 => ?_) (fun h2 => ?_)
  · refine x_iconst C dX7_isStanding_27 ?_
    exact x_zret C hQ (by omega) dX7_isStanding_28 (⟨rfl, _, rfl, .inr ⟨rfl, fun t => by have t1 := t.1; have t2 := t.2; omega⟩⟩)
  · refine x_aload_n (i := 0) C dX7_isStanding_13 rfl rfl ?_
    refine x_getRs (r := 93) C fkX_X7_9 (nlt rfl) rfl (HG.rR hH (k := 92) (i := 3) rfl rfl) dX7_isStanding_14 ?_
    refine x_iload_n (i := 1) C dX7_isStanding_17 rfl rfl ?_
    refine x_iald C (nlt rfl) rfl rfl (nle rfl) (by omega) (by omega) dX7_isStanding_18 ?_
    refine x_gen (fun v3 ev3 => ?_)
    have qv3 : ((-2147483648) : Int) ≤ v3 ∧ v3 ≤ (2147483647 : Int) := by
      rw [ev3]
      exact hH.rA (k := 93) (n := 6) (p := ((-2147483648), 2147483647)) (nlt rfl) rfl (by decide +kernel) (by omega)
    refine x_iconst C dX7_isStanding_19 ?_
    refine x_icmp_eq (tgt := 27) C dX7_isStanding_20 (by decide) ⟨by omega, by omega⟩ ⟨by omega, by omega⟩ (fun h4 => ?_) (fun h4 => ?_)
    · refine x_iconst C dX7_isStanding_27 ?_
      exact x_zret C hQ (by omega) dX7_isStanding_28 (⟨rfl, _, rfl, .inr ⟨rfl, fun t => by have t1 := t.1; have t2 := t.2; omega⟩⟩)
    · refine x_iconst C dX7_isStanding_23 ?_
      refine x_goto (tgt := 28) C dX7_isStanding_24 (by decide) ?_
      exact x_zret C hQ (by omega) dX7_isStanding_28 (⟨rfl, _, rfl, .inl ⟨rfl, by rw [← ev1]; omega, by rw [← ev3]; omega⟩⟩)
set_option maxHeartbeats 4000000 in
set_option maxRecDepth 100000 in
theorem xl_nxB92_10 {D : va_G} {ad : Nat → Nat} {cA : Nat → ClassId} {X : XT} {q : Int} (q0 : 0 ≤ q) (q1 : q ≤ 1) (hb : X.2.2 92 0 = some 10) (hH : HG vX X) {E : ET} (C : CX E (wX D ad cA) cX7_nextMan 4 RX7 (some .int) { frames := 1, cells := 0, slots := 0, locals := 22 }) (hQ : EQ E (wX D ad cA) (fun r X' => X' = X ∧ ∃ u : Int, r = some (.int (iI u)) ∧ NMT (X.1 10 4) (X.1 11) (X.1 93) (X.1 94 q.toNat) q u)) : ∀ (n : Nat) (i : Int) (l : Int), 7 - i < n → 0 ≤ i → i ≤ 6 → X.1 94 q.toNat < i → LST (X.1 10 4) (X.1 11) (X.1 93) q (-1) l → BHD (X.1 11) (X.1 93) q (X.1 94 q.toNat) i → Wx E (wX D ad cA) 4 (PX (wX D ad cA) X) 42 [(3, .int (iI (i))), (2, .int (iI (l))), (0, .ref 92), (1, .int (iI (q)))] [] := by
  intro n
  induction n with
  | zero => intro i l hn i0 i1 iw hl hw; exfalso; omega
  | succ n ih =>
    intro i l hn i0 i1 iw hl hw
    have hm : (0 : Int) ≤ (X.1 10 4) ∧ (X.1 10 4) ≤ 6 := hH.rF (k := 10) (i := 4) (p := (0, 6)) rfl rfl
    have lb := lst_b hl
    refine x_iload_n (i := 3) C dX7_nextMan_42 rfl rfl ?_
    refine x_aload_n (i := 0) C dX7_nextMan_43 rfl rfl ?_
    refine x_getRs (r := 10) C fkX_X7_18 (nlt rfl) rfl hb dX7_nextMan_44 ?_
    refine x_getI C fkX_X7_43 (nlt rfl) rfl dX7_nextMan_47 ?_
    refine x_gen (fun v1 ev1 => ?_)
    have qv1 : (0 : Int) ≤ v1 ∧ v1 ≤ (6 : Int) := by
      rw [ev1]
      exact hH.rF (k := 10) (i := 4) rfl rfl
    have mv1 : v1 = X.1 10 4 := ev1
    refine x_icmp_ge (tgt := 70) C dX7_nextMan_50 (by decide) ⟨by omega, by omega⟩ ⟨by omega, by omega⟩ (fun h2 => ?_) (fun h2 => ?_)
    · refine x_iload_n (i := 2) C dX7_nextMan_70 rfl rfl ?_
      exact x_iret C hQ dX7_nextMan_71 (⟨rfl, _, rfl, nmt_l hl hw (by omega)⟩)
    · refine x_aload_n (i := 0) C dX7_nextMan_53 rfl rfl ?_
      refine x_iload_n (i := 3) C dX7_nextMan_54 rfl rfl ?_
      refine x_iload_n (i := 1) C dX7_nextMan_55 rfl rfl ?_
      refine x_callV (As := [.int (iI (i)), .int (iI (q))]) C (by exact (xf_isSt92_10 (k := i) q0 q1 hb hH (by omega) (by omega))) ckX7_46 im_X7_isStanding se_X7_isStanding (nlt rfl) rfl rfl rfl rfl (nle rfl) (by exact ⟨nle rfl, nle rfl⟩) dX7_nextMan_56 ?_
      rintro _ Xv3 ⟨hxv3, v3, rfl, ev3⟩
      rw [hxv3]
      refine Wx_st (st' := [.int (iI (v3))]) rfl ?_
      refine x_if_eq (tgt := 64) C dX7_nextMan_59 (by decide) ⟨by omega, by omega⟩ (fun h4 => ?_) (fun h4 => ?_)
      · refine x_iinc (lv' := [(3, .int (iI (i + 1))), (2, .int (iI (l))), (0, .ref 92), (1, .int (iI (q)))]) C dX7_nextMan_64 rfl (nlt rfl) rfl ?_
        refine x_goto (tgt := 42) C dX7_nextMan_67 (by decide) ?_
        refine Wx_pick [3, 2, 0, 1] ?_
        refine Wx_lv (lv' := [(3, .int (iI (i + 1))), (2, .int (iI (l))), (0, .ref 92), (1, .int (iI (q)))]) rfl ?_
        exact ih _ _ (by omega) (by omega) (by omega) (by omega) hl (bhd_n (by omega) hw (ev3.elim (fun t => by exfalso; have := t.1; omega) (fun t => t.2)))
      · refine x_iload_n (i := 3) C dX7_nextMan_62 rfl rfl ?_
        exact x_iret C hQ dX7_nextMan_63 (⟨rfl, _, rfl, nmt_i (by omega) (by omega) (by omega) hw (ev3.elim (fun t => t.2) (fun t => by exfalso; have := t.1; omega))⟩)
set_option maxHeartbeats 4000000 in
set_option maxRecDepth 100000 in
theorem xl_nxA92_10 {D : va_G} {ad : Nat → Nat} {cA : Nat → ClassId} {X : XT} {q : Int} (q0 : 0 ≤ q) (q1 : q ≤ 1) (hb : X.2.2 92 0 = some 10) (hH : HG vX X) {E : ET} (C : CX E (wX D ad cA) cX7_nextMan 4 RX7 (some .int) { frames := 1, cells := 0, slots := 0, locals := 22 }) (hQ : EQ E (wX D ad cA) (fun r X' => X' = X ∧ ∃ u : Int, r = some (.int (iI u)) ∧ NMT (X.1 10 4) (X.1 11) (X.1 93) (X.1 94 q.toNat) q u)) : ∀ (n : Nat) (i : Int) (l : Int), i + 1 < n → -1 ≤ i → i < (X.1 10 4) → LST (X.1 10 4) (X.1 11) (X.1 93) q i l → Wx E (wX D ad cA) 4 (PX (wX D ad cA) X) 12 [(3, .int (iI (i))), (2, .int (iI (l))), (0, .ref 92), (1, .int (iI (q)))] [] := by
  intro n
  induction n with
  | zero => intro i l hn i0 i1 hl; exfalso; omega
  | succ n ih =>
    intro i l hn i0 i1 hl
    have hm : (0 : Int) ≤ (X.1 10 4) ∧ (X.1 10 4) ≤ 6 := hH.rF (k := 10) (i := 4) (p := (0, 6)) rfl rfl
    have lb := lst_b hl
    refine x_iload_n (i := 3) C dX7_nextMan_12 rfl rfl ?_
    refine x_if_lt (tgt := 33) C dX7_nextMan_13 (by decide) ⟨by omega, by omega⟩ (fun h1 => ?_) (fun h1 => ?_)
    · refine x_aload_n (i := 0) C dX7_nextMan_33 rfl rfl ?_
      refine x_getRs (r := 94) C fkX_X7_15 (nlt rfl) rfl (HG.rR hH (k := 92) (i := 4) rfl rfl) dX7_nextMan_34 ?_
      refine x_iload_n (i := 1) C dX7_nextMan_37 rfl rfl ?_
      refine x_iald C (nlt rfl) rfl rfl (nle rfl) (by omega) (by omega) dX7_nextMan_38 ?_
      refine x_gen (fun v2 ev2 => ?_)
      have qv2 : ((-1) : Int) ≤ v2 ∧ v2 ≤ (5 : Int) := by
        rw [ev2]
        exact hH.rA (k := 94) (n := 2) (p := ((-1), 5)) (nlt rfl) rfl (by decide +kernel) (by omega)
      refine x_iconst C dX7_nextMan_39 ?_
      refine x_iadd C dX7_nextMan_40 ?_
      refine x_gen (fun v3 ev3 => ?_)
      refine x_istore_n (i := 3) (lv' := [(3, .int (iI (v3))), (2, .int (iI (l))), (0, .ref 92), (1, .int (iI (q)))]) C dX7_nextMan_41 rfl (nlt rfl) rfl ?_
      refine Wx_pick [3, 2, 0, 1] ?_
      refine Wx_lv (lv' := [(3, .int (iI (v3))), (2, .int (iI (l))), (0, .ref 92), (1, .int (iI (q)))]) rfl ?_
      exact xl_nxB92_10 q0 q1 hb hH C hQ 8 _ _ (by omega) (by omega) (by omega) (by omega) (by rw [show i = -1 by omega] at hl; exact hl) (bhd_0 (by omega))
    · refine x_aload_n (i := 0) C dX7_nextMan_16 rfl rfl ?_
      refine x_iload_n (i := 3) C dX7_nextMan_17 rfl rfl ?_
      refine x_iload_n (i := 1) C dX7_nextMan_18 rfl rfl ?_
      refine x_callV (As := [.int (iI (i)), .int (iI (q))]) C (by exact (xf_isSt92_10 (k := i) q0 q1 hb hH (by omega) (by omega))) ckX7_46 im_X7_isStanding se_X7_isStanding (nlt rfl) rfl rfl rfl rfl (nle rfl) (by exact ⟨nle rfl, nle rfl⟩) dX7_nextMan_19 ?_
      rintro _ Xv4 ⟨hxv4, v4, rfl, ev4⟩
      rw [hxv4]
      refine Wx_st (st' := [.int (iI (v4))]) rfl ?_
      refine x_if_eq (tgt := 27) C dX7_nextMan_22 (by decide) ⟨by omega, by omega⟩ (fun h5 => ?_) (fun h5 => ?_)
      · refine x_iinc (lv' := [(3, .int (iI (i + (-1)))), (2, .int (iI (l))), (0, .ref 92), (1, .int (iI (q)))]) C dX7_nextMan_27 rfl (nlt rfl) rfl ?_
        refine x_goto (tgt := 12) C dX7_nextMan_30 (by decide) ?_
        refine Wx_pick [3, 2, 0, 1] ?_
        refine Wx_lv (lv' := [(3, .int (iI (i + (-1)))), (2, .int (iI (l))), (0, .ref 92), (1, .int (iI (q)))]) rfl ?_
        exact ih _ _ (by omega) (by omega) (by omega) (lst_n (by omega) hl (ev4.elim (fun t => by exfalso; have := t.1; omega) (fun t => t.2)))
      · refine x_iload_n (i := 3) C dX7_nextMan_25 rfl rfl ?_
        refine x_istore_n (i := 2) (lv' := [(2, .int (iI (i))), (3, .int (iI (i))), (0, .ref 92), (1, .int (iI (q)))]) C dX7_nextMan_26 rfl (nlt rfl) rfl ?_
        refine x_iinc (lv' := [(3, .int (iI (i + (-1)))), (2, .int (iI (i))), (0, .ref 92), (1, .int (iI (q)))]) C dX7_nextMan_27 rfl (nlt rfl) rfl ?_
        refine x_goto (tgt := 12) C dX7_nextMan_30 (by decide) ?_
        refine Wx_pick [3, 2, 0, 1] ?_
        refine Wx_lv (lv' := [(3, .int (iI (i + (-1)))), (2, .int (iI (i))), (0, .ref 92), (1, .int (iI (q)))]) rfl ?_
        exact ih _ _ (by omega) (by omega) (by omega) (lst_y (by omega) i1 hl (ev4.elim (fun t => t.2) (fun t => by exfalso; have := t.1; omega)))
set_option maxHeartbeats 4000000 in
set_option maxRecDepth 100000 in
theorem xf_nextMan92_10 {D : va_G} {ad : Nat → Nat} {cA : Nat → ClassId} {X : XT} {q : Int} (q0 : 0 ≤ q) (q1 : q ≤ 1) (hb : X.2.2 92 0 = some 10) (hH : HG vX X) : MetX (wX D ad cA) yX7_nextMan cX7_nextMan 4 (some .int) 1 22 [.ref 92, .int (iI (q))] X (fun r X' => X' = X ∧ ∃ u : Int, r = some (.int (iI u)) ∧ NMT (X.1 10 4) (X.1 11) (X.1 93) (X.1 94 q.toNat) q u) := by
  have hm : (0 : Int) ≤ (X.1 10 4) ∧ (X.1 10 4) ≤ 6 := hH.rF (k := 10) (i := 4) (p := (0, 6)) rfl rfl
  refine MetX.mk (own := RX7) (by decide +kernel) rfl (nle rfl) (fun E C hQ => ?_)
  refine Wx_lv (lv' := [(0, .ref 92), (1, .int (iI (q)))]) rfl ?_
  refine x_iconst C dX7_nextMan_0 ?_
  refine x_istore_n (i := 2) (lv' := [(2, .int (iI ((-1)))), (0, .ref 92), (1, .int (iI (q)))]) C dX7_nextMan_1 rfl (nlt rfl) rfl ?_
  refine x_aload_n (i := 0) C dX7_nextMan_2 rfl rfl ?_
  refine x_getRs (r := 10) C fkX_X7_18 (nlt rfl) rfl hb dX7_nextMan_3 ?_
  refine x_getI C fkX_X7_43 (nlt rfl) rfl dX7_nextMan_6 ?_
  refine x_gen (fun v1 ev1 => ?_)
  have qv1 : (0 : Int) ≤ v1 ∧ v1 ≤ (6 : Int) := by
    rw [ev1]
    exact hH.rF (k := 10) (i := 4) rfl rfl
  have mv1 : v1 = X.1 10 4 := ev1
  refine x_iconst C dX7_nextMan_9 ?_
  refine x_isub C dX7_nextMan_10 ?_
  refine x_gen (fun v2 ev2 => ?_)
  refine x_istore_n (i := 3) (lv' := [(3, .int (iI (v2))), (2, .int (iI ((-1)))), (0, .ref 92), (1, .int (iI (q)))]) C dX7_nextMan_11 rfl (nlt rfl) rfl ?_
  refine Wx_pick [3, 2, 0, 1] ?_
  refine Wx_lv (lv' := [(3, .int (iI (v2))), (2, .int (iI ((-1)))), (0, .ref 92), (1, .int (iI (q)))]) rfl ?_
  exact xl_nxA92_10 q0 q1 hb hH C hQ 8 _ (-1) (by omega) (by omega) (by omega) (lst_0 (by omega))
set_option maxRecDepth 10000 in
theorem t_X_342 {D : va_G} {ad : Nat → Nat} {cA : Nat → ClassId} : CTR mtX vX gX (wX D ad cA) k_X_342 := by
  intro g X hpre
  obtain ⟨h00, hei, hel, hdl, hH, hE⟩ := hpre
  have h0 : (0 : Int) ≤ g.1 0 ∧ g.1 0 ≤ (0 : Int) := hei 0 _ rfl
  have h1 : (0 : Int) ≤ g.1 1 ∧ g.1 1 ≤ (1 : Int) := hei 1 _ rfl
  have h2 : ((-2147483648) : Int) ≤ g.1 2 ∧ g.1 2 ≤ (2147483647 : Int) := hei 2 _ rfl
  have h3 : ((-2147483648) : Int) ≤ g.1 3 ∧ g.1 3 ≤ (2147483647 : Int) := hei 3 _ rfl
  have h4 : ((-2147483648) : Int) ≤ g.1 4 ∧ g.1 4 ≤ (2147483647 : Int) := hei 4 _ rfl
  have h5 : ((-2147483648) : Int) ≤ g.1 5 ∧ g.1 5 ≤ (2147483647 : Int) := hei 5 _ rfl
  have h6 : ((-2147483648) : Int) ≤ g.1 6 ∧ g.1 6 ≤ (2147483647 : Int) := hei 6 _ rfl
  have h7 : ((-2147483648) : Int) ≤ g.1 7 ∧ g.1 7 ≤ (2147483647 : Int) := hei 7 _ rfl
  have hb : X.2.2 92 0 = some 10 := hdl ((92, 0), (2, 10, 0)) (.head _)
  have f0 : X.1 11 0 = g.1 2 + 0 := (hdl ((11, 0), (0, 2, 0)) (.tail _ (.head _)))
  have f1 : X.1 11 1 = g.1 3 + 0 := (hdl ((11, 1), (0, 3, 0)) (.tail _ (.tail _ (.head _))))
  have f2 : X.1 11 2 = g.1 4 + 0 := (hdl ((11, 2), (0, 4, 0)) (.tail _ (.tail _ (.tail _ (.head _)))))
  have f3 : X.1 11 3 = g.1 5 + 0 := (hdl ((11, 3), (0, 5, 0)) (.tail _ (.tail _ (.tail _ (.tail _ (.head _))))))
  have f4 : X.1 11 4 = g.1 6 + 0 := (hdl ((11, 4), (0, 6, 0)) (.tail _ (.tail _ (.tail _ (.tail _ (.tail _ (.head _)))))))
  have f5 : X.1 11 5 = g.1 7 + 0 := (hdl ((11, 5), (0, 7, 0)) (.tail _ (.tail _ (.tail _ (.tail _ (.tail _ (.tail _ (.head _))))))))
  have hm : (0 : Int) ≤ (X.1 10 4) ∧ (X.1 10 4) ≤ 6 := hH.rF (k := 10) (i := 4) (p := (0, 6)) rfl rfl
  refine MetX.imp (fun r X1 hp => ?_) (xf_nextMan92_10 (X := X) (q := g.1 1 + 0) (by omega) (by omega) hb hH)
  obtain ⟨rfl, u, rfl, hu⟩ := hp
  rcases nmt_c hu with rfl | ⟨u0, u1, u2⟩
  · exact (altM_mk 0 [(-1)] rfl (ei_cons ⟨by show (0 : Int) ≤ g.1 0; omega, by show g.1 0 ≤ (0 : Int); omega⟩ (ei_cons ⟨by show (0 : Int) ≤ g.1 1; omega, by show g.1 1 ≤ (1 : Int); omega⟩ (ei_cons ⟨by show ((-2147483648) : Int) ≤ g.1 2; omega, by show g.1 2 ≤ (2147483647 : Int); omega⟩ (ei_cons ⟨by show ((-2147483648) : Int) ≤ g.1 3; omega, by show g.1 3 ≤ (2147483647 : Int); omega⟩ (ei_cons ⟨by show ((-2147483648) : Int) ≤ g.1 4; omega, by show g.1 4 ≤ (2147483647 : Int); omega⟩ (ei_cons ⟨by show ((-2147483648) : Int) ≤ g.1 5; omega, by show g.1 5 ≤ (2147483647 : Int); omega⟩ (ei_cons ⟨by show ((-2147483648) : Int) ≤ g.1 6; omega, by show g.1 6 ≤ (2147483647 : Int); omega⟩ (ei_cons ⟨by show ((-2147483648) : Int) ≤ g.1 7; omega, by show g.1 7 ≤ (2147483647 : Int); omega⟩ (ei_cons ⟨by show ((-1) : Int) ≤ (-1); omega, by show (-1) ≤ ((-1) : Int); omega⟩ ei_nil))))))))) el_nil (by rfl) dl_nil gd_nil hH hE FR.rf)
  rcases (show u = 0 ∨ u = 1 ∨ u = 2 ∨ u = 3 ∨ u = 4 ∨ u = 5 by omega) with rfl | rfl | rfl | rfl | rfl | rfl
  · have z : X1.1 11 0 = g.1 1 + 0 := u2
    exact (altM_mk 1 [0] rfl (ei_cons ⟨by show (0 : Int) ≤ g.1 0; omega, by show g.1 0 ≤ (0 : Int); omega⟩ (ei_cons ⟨by show (0 : Int) ≤ g.1 1; omega, by show g.1 1 ≤ (1 : Int); omega⟩ (ei_cons ⟨by show (0 : Int) ≤ g.1 2; omega, by show g.1 2 ≤ (1 : Int); omega⟩ (ei_cons ⟨by show ((-2147483648) : Int) ≤ g.1 3; omega, by show g.1 3 ≤ (2147483647 : Int); omega⟩ (ei_cons ⟨by show ((-2147483648) : Int) ≤ g.1 4; omega, by show g.1 4 ≤ (2147483647 : Int); omega⟩ (ei_cons ⟨by show ((-2147483648) : Int) ≤ g.1 5; omega, by show g.1 5 ≤ (2147483647 : Int); omega⟩ (ei_cons ⟨by show ((-2147483648) : Int) ≤ g.1 6; omega, by show g.1 6 ≤ (2147483647 : Int); omega⟩ (ei_cons ⟨by show ((-2147483648) : Int) ≤ g.1 7; omega, by show g.1 7 ≤ (2147483647 : Int); omega⟩ (ei_cons ⟨by show (0 : Int) ≤ 0; omega, by show 0 ≤ (0 : Int); omega⟩ ei_nil))))))))) el_nil (by rfl) dl_nil gd_nil hH hE FR.rf)
  · have z : X1.1 11 1 = g.1 1 + 0 := u2
    exact (altM_mk 2 [1] rfl (ei_cons ⟨by show (0 : Int) ≤ g.1 0; omega, by show g.1 0 ≤ (0 : Int); omega⟩ (ei_cons ⟨by show (0 : Int) ≤ g.1 1; omega, by show g.1 1 ≤ (1 : Int); omega⟩ (ei_cons ⟨by show ((-2147483648) : Int) ≤ g.1 2; omega, by show g.1 2 ≤ (2147483647 : Int); omega⟩ (ei_cons ⟨by show (0 : Int) ≤ g.1 3; omega, by show g.1 3 ≤ (1 : Int); omega⟩ (ei_cons ⟨by show ((-2147483648) : Int) ≤ g.1 4; omega, by show g.1 4 ≤ (2147483647 : Int); omega⟩ (ei_cons ⟨by show ((-2147483648) : Int) ≤ g.1 5; omega, by show g.1 5 ≤ (2147483647 : Int); omega⟩ (ei_cons ⟨by show ((-2147483648) : Int) ≤ g.1 6; omega, by show g.1 6 ≤ (2147483647 : Int); omega⟩ (ei_cons ⟨by show ((-2147483648) : Int) ≤ g.1 7; omega, by show g.1 7 ≤ (2147483647 : Int); omega⟩ (ei_cons ⟨by show (1 : Int) ≤ 1; omega, by show 1 ≤ (1 : Int); omega⟩ ei_nil))))))))) el_nil (by rfl) dl_nil gd_nil hH hE FR.rf)
  · have z : X1.1 11 2 = g.1 1 + 0 := u2
    exact (altM_mk 3 [2] rfl (ei_cons ⟨by show (0 : Int) ≤ g.1 0; omega, by show g.1 0 ≤ (0 : Int); omega⟩ (ei_cons ⟨by show (0 : Int) ≤ g.1 1; omega, by show g.1 1 ≤ (1 : Int); omega⟩ (ei_cons ⟨by show ((-2147483648) : Int) ≤ g.1 2; omega, by show g.1 2 ≤ (2147483647 : Int); omega⟩ (ei_cons ⟨by show ((-2147483648) : Int) ≤ g.1 3; omega, by show g.1 3 ≤ (2147483647 : Int); omega⟩ (ei_cons ⟨by show (0 : Int) ≤ g.1 4; omega, by show g.1 4 ≤ (1 : Int); omega⟩ (ei_cons ⟨by show ((-2147483648) : Int) ≤ g.1 5; omega, by show g.1 5 ≤ (2147483647 : Int); omega⟩ (ei_cons ⟨by show ((-2147483648) : Int) ≤ g.1 6; omega, by show g.1 6 ≤ (2147483647 : Int); omega⟩ (ei_cons ⟨by show ((-2147483648) : Int) ≤ g.1 7; omega, by show g.1 7 ≤ (2147483647 : Int); omega⟩ (ei_cons ⟨by show (2 : Int) ≤ 2; omega, by show 2 ≤ (2 : Int); omega⟩ ei_nil))))))))) el_nil (by rfl) dl_nil gd_nil hH hE FR.rf)
  · have z : X1.1 11 3 = g.1 1 + 0 := u2
    exact (altM_mk 4 [3] rfl (ei_cons ⟨by show (0 : Int) ≤ g.1 0; omega, by show g.1 0 ≤ (0 : Int); omega⟩ (ei_cons ⟨by show (0 : Int) ≤ g.1 1; omega, by show g.1 1 ≤ (1 : Int); omega⟩ (ei_cons ⟨by show ((-2147483648) : Int) ≤ g.1 2; omega, by show g.1 2 ≤ (2147483647 : Int); omega⟩ (ei_cons ⟨by show ((-2147483648) : Int) ≤ g.1 3; omega, by show g.1 3 ≤ (2147483647 : Int); omega⟩ (ei_cons ⟨by show ((-2147483648) : Int) ≤ g.1 4; omega, by show g.1 4 ≤ (2147483647 : Int); omega⟩ (ei_cons ⟨by show (0 : Int) ≤ g.1 5; omega, by show g.1 5 ≤ (1 : Int); omega⟩ (ei_cons ⟨by show ((-2147483648) : Int) ≤ g.1 6; omega, by show g.1 6 ≤ (2147483647 : Int); omega⟩ (ei_cons ⟨by show ((-2147483648) : Int) ≤ g.1 7; omega, by show g.1 7 ≤ (2147483647 : Int); omega⟩ (ei_cons ⟨by show (3 : Int) ≤ 3; omega, by show 3 ≤ (3 : Int); omega⟩ ei_nil))))))))) el_nil (by rfl) dl_nil gd_nil hH hE FR.rf)
  · have z : X1.1 11 4 = g.1 1 + 0 := u2
    exact (altM_mk 5 [4] rfl (ei_cons ⟨by show (0 : Int) ≤ g.1 0; omega, by show g.1 0 ≤ (0 : Int); omega⟩ (ei_cons ⟨by show (0 : Int) ≤ g.1 1; omega, by show g.1 1 ≤ (1 : Int); omega⟩ (ei_cons ⟨by show ((-2147483648) : Int) ≤ g.1 2; omega, by show g.1 2 ≤ (2147483647 : Int); omega⟩ (ei_cons ⟨by show ((-2147483648) : Int) ≤ g.1 3; omega, by show g.1 3 ≤ (2147483647 : Int); omega⟩ (ei_cons ⟨by show ((-2147483648) : Int) ≤ g.1 4; omega, by show g.1 4 ≤ (2147483647 : Int); omega⟩ (ei_cons ⟨by show ((-2147483648) : Int) ≤ g.1 5; omega, by show g.1 5 ≤ (2147483647 : Int); omega⟩ (ei_cons ⟨by show (0 : Int) ≤ g.1 6; omega, by show g.1 6 ≤ (1 : Int); omega⟩ (ei_cons ⟨by show ((-2147483648) : Int) ≤ g.1 7; omega, by show g.1 7 ≤ (2147483647 : Int); omega⟩ (ei_cons ⟨by show (4 : Int) ≤ 4; omega, by show 4 ≤ (4 : Int); omega⟩ ei_nil))))))))) el_nil (by rfl) dl_nil gd_nil hH hE FR.rf)
  · have z : X1.1 11 5 = g.1 1 + 0 := u2
    exact (altM_mk 6 [5] rfl (ei_cons ⟨by show (0 : Int) ≤ g.1 0; omega, by show g.1 0 ≤ (0 : Int); omega⟩ (ei_cons ⟨by show (0 : Int) ≤ g.1 1; omega, by show g.1 1 ≤ (1 : Int); omega⟩ (ei_cons ⟨by show ((-2147483648) : Int) ≤ g.1 2; omega, by show g.1 2 ≤ (2147483647 : Int); omega⟩ (ei_cons ⟨by show ((-2147483648) : Int) ≤ g.1 3; omega, by show g.1 3 ≤ (2147483647 : Int); omega⟩ (ei_cons ⟨by show ((-2147483648) : Int) ≤ g.1 4; omega, by show g.1 4 ≤ (2147483647 : Int); omega⟩ (ei_cons ⟨by show ((-2147483648) : Int) ≤ g.1 5; omega, by show g.1 5 ≤ (2147483647 : Int); omega⟩ (ei_cons ⟨by show ((-2147483648) : Int) ≤ g.1 6; omega, by show g.1 6 ≤ (2147483647 : Int); omega⟩ (ei_cons ⟨by show (0 : Int) ≤ g.1 7; omega, by show g.1 7 ≤ (1 : Int); omega⟩ (ei_cons ⟨by show (5 : Int) ≤ 5; omega, by show 5 ≤ (5 : Int); omega⟩ ei_nil))))))))) el_nil (by rfl) dl_nil gd_nil hH hE FR.rf)
set_option maxHeartbeats 4000000 in
set_option maxRecDepth 100000 in
theorem xf_hasMan7 {D : va_G} {ad : Nat → Nat} {cA : Nat → ClassId} {X : XT} {n : Int} (nn : inR n) (hH : HG vX X) : MetX (wX D ad cA) yX0_hasMan cX0_hasMan 2 (some .boolean) 0 0 [.ref 7, .int (iI (n))] X (fun r X' => X' = X ∧ ∃ u : Int, r = some (.int (iI u)) ∧ ((u = 0) ∨ (u = 1 ∧ 0 ≤ n ∧ n < X.1 7 4 ∧ X.1 7 4 ≤ 6))) := by
  unfold inR at nn
  have m6 : (0 : Int) ≤ X.1 7 4 ∧ X.1 7 4 ≤ (6 : Int) := hH.rF (k := 7) (i := 4) (p := (0, 6)) rfl rfl
  refine MetX.mk (own := RX0) (by decide +kernel) rfl (nle rfl) (fun E C hQ => ?_)
  refine Wx_lv (lv' := [(0, .ref 7), (1, .int (iI (n)))]) rfl ?_
  refine x_iload_n (i := 1) C dX0_hasMan_0 rfl rfl ?_
  refine x_if_lt (tgt := 16) C dX0_hasMan_1 (by decide) ⟨by omega, by omega⟩ (fun h1 => ?_) (fun h1 => ?_)
  · refine x_iconst C dX0_hasMan_16 ?_
    exact x_zret C hQ (by omega) dX0_hasMan_17 (⟨rfl, _, rfl, by omega⟩)
  · refine x_iload_n (i := 1) C dX0_hasMan_4 rfl rfl ?_
    refine x_aload_n (i := 0) C dX0_hasMan_5 rfl rfl ?_
    refine x_getI C fkX_X0_32 (nlt rfl) rfl dX0_hasMan_6 ?_
    refine x_gen (fun v2 ev2 => ?_)
    have qv2 : (0 : Int) ≤ v2 ∧ v2 ≤ (6 : Int) := by
      rw [ev2]
      exact hH.rF (k := 7) (i := 4) rfl rfl
    refine x_icmp_ge (tgt := 16) C dX0_hasMan_9 (by decide) ⟨by omega, by omega⟩ ⟨by omega, by omega⟩ (fun h3 => ?_) (fun h3 => ?_)
    · refine x_iconst C dX0_hasMan_16 ?_
      exact x_zret C hQ (by omega) dX0_hasMan_17 (⟨rfl, _, rfl, by omega⟩)
    · refine x_iconst C dX0_hasMan_12 ?_
      refine x_goto (tgt := 17) C dX0_hasMan_13 (by decide) ?_
      exact x_zret C hQ (by omega) dX0_hasMan_17 (⟨rfl, _, rfl, by omega⟩)
set_option maxRecDepth 10000 in
theorem t_X_47 {D : va_G} {ad : Nat → Nat} {cA : Nat → ClassId} : CTR mtX vX gX (wX D ad cA) k_X_47 := by
  intro g X hpre
  obtain ⟨h00, hei, hel, hdl, hH, hE⟩ := hpre
  have h0 : (0 : Int) ≤ g.1 0 ∧ g.1 0 ≤ (0 : Int) := hei 0 _ rfl
  have h1 : ((-2147483648) : Int) ≤ g.1 1 ∧ g.1 1 ≤ (2147483647 : Int) := hei 1 _ rfl
  have h2 : ((-2147483648) : Int) ≤ g.1 2 ∧ g.1 2 ≤ (2147483647 : Int) := hei 2 _ rfl
  have h3 : ((-2147483648) : Int) ≤ g.1 3 ∧ g.1 3 ≤ (2147483647 : Int) := hei 3 _ rfl
  have h4 : ((-2147483648) : Int) ≤ g.1 4 ∧ g.1 4 ≤ (2147483647 : Int) := hei 4 _ rfl
  have h5 : ((-2147483648) : Int) ≤ g.1 5 ∧ g.1 5 ≤ (2147483647 : Int) := hei 5 _ rfl
  have h6 : ((-2147483648) : Int) ≤ g.1 6 ∧ g.1 6 ≤ (2147483647 : Int) := hei 6 _ rfl
  have h7 : ((-2147483648) : Int) ≤ g.1 7 ∧ g.1 7 ≤ (2147483647 : Int) := hei 7 _ rfl
  have f0 : X.1 9 0 = g.1 2 + 0 := (hdl ((9, 0), (0, 2, 0)) (.head _))
  have f1 : X.1 9 1 = g.1 3 + 0 := (hdl ((9, 1), (0, 3, 0)) (.tail _ (.head _)))
  have f2 : X.1 9 2 = g.1 4 + 0 := (hdl ((9, 2), (0, 4, 0)) (.tail _ (.tail _ (.head _))))
  have f3 : X.1 9 3 = g.1 5 + 0 := (hdl ((9, 3), (0, 5, 0)) (.tail _ (.tail _ (.tail _ (.head _)))))
  have f4 : X.1 9 4 = g.1 6 + 0 := (hdl ((9, 4), (0, 6, 0)) (.tail _ (.tail _ (.tail _ (.tail _ (.head _))))))
  have f5 : X.1 9 5 = g.1 7 + 0 := (hdl ((9, 5), (0, 7, 0)) (.tail _ (.tail _ (.tail _ (.tail _ (.tail _ (.head _)))))))
  refine MetX.imp (fun r X1 hp => ?_) (xf_hasMan7 (X := X) (n := g.1 1 + 0) ⟨by omega, by omega⟩ hH)
  obtain ⟨rfl, u, rfl, rfl | ⟨rfl, n0, n1, n6⟩⟩ := hp
  · exact (altM_mk 0 [0] rfl (ei_cons ⟨by show (0 : Int) ≤ g.1 0; omega, by show g.1 0 ≤ (0 : Int); omega⟩ (ei_cons ⟨by show ((-2147483648) : Int) ≤ g.1 1; omega, by show g.1 1 ≤ (2147483647 : Int); omega⟩ (ei_cons ⟨by show ((-2147483648) : Int) ≤ g.1 2; omega, by show g.1 2 ≤ (2147483647 : Int); omega⟩ (ei_cons ⟨by show ((-2147483648) : Int) ≤ g.1 3; omega, by show g.1 3 ≤ (2147483647 : Int); omega⟩ (ei_cons ⟨by show ((-2147483648) : Int) ≤ g.1 4; omega, by show g.1 4 ≤ (2147483647 : Int); omega⟩ (ei_cons ⟨by show ((-2147483648) : Int) ≤ g.1 5; omega, by show g.1 5 ≤ (2147483647 : Int); omega⟩ (ei_cons ⟨by show ((-2147483648) : Int) ≤ g.1 6; omega, by show g.1 6 ≤ (2147483647 : Int); omega⟩ (ei_cons ⟨by show ((-2147483648) : Int) ≤ g.1 7; omega, by show g.1 7 ≤ (2147483647 : Int); omega⟩ (ei_cons ⟨by show (0 : Int) ≤ 0; omega, by show 0 ≤ (0 : Int); omega⟩ ei_nil))))))))) el_nil (by rfl) dl_nil gd_nil hH hE FR.rf)
  have hm := hE (7, 9) (by decide)
  rcases (show g.1 1 + 0 = 0 ∨ g.1 1 + 0 = 1 ∨ g.1 1 + 0 = 2 ∨ g.1 1 + 0 = 3 ∨ g.1 1 + 0 = 4 ∨ g.1 1 + 0 = 5 by omega) with q | q | q | q | q | q
  · have z : 0 ≤ X1.1 9 0 ∧ X1.1 9 0 ≤ 35 := hm 0 (by show (0 : Int) < X1.1 7 4; omega)
    exact (altM_mk 1 [1] rfl (ei_cons ⟨by show (0 : Int) ≤ g.1 0; omega, by show g.1 0 ≤ (0 : Int); omega⟩ (ei_cons ⟨by show (0 : Int) ≤ g.1 1; omega, by show g.1 1 ≤ (0 : Int); omega⟩ (ei_cons ⟨by show (0 : Int) ≤ g.1 2; omega, by show g.1 2 ≤ (35 : Int); omega⟩ (ei_cons ⟨by show ((-2147483648) : Int) ≤ g.1 3; omega, by show g.1 3 ≤ (2147483647 : Int); omega⟩ (ei_cons ⟨by show ((-2147483648) : Int) ≤ g.1 4; omega, by show g.1 4 ≤ (2147483647 : Int); omega⟩ (ei_cons ⟨by show ((-2147483648) : Int) ≤ g.1 5; omega, by show g.1 5 ≤ (2147483647 : Int); omega⟩ (ei_cons ⟨by show ((-2147483648) : Int) ≤ g.1 6; omega, by show g.1 6 ≤ (2147483647 : Int); omega⟩ (ei_cons ⟨by show ((-2147483648) : Int) ≤ g.1 7; omega, by show g.1 7 ≤ (2147483647 : Int); omega⟩ (ei_cons ⟨by show (1 : Int) ≤ 1; omega, by show 1 ≤ (1 : Int); omega⟩ ei_nil))))))))) el_nil (by rfl) dl_nil gd_nil hH hE FR.rf)
  · have z : 0 ≤ X1.1 9 1 ∧ X1.1 9 1 ≤ 35 := hm 1 (by show (1 : Int) < X1.1 7 4; omega)
    exact (altM_mk 2 [1] rfl (ei_cons ⟨by show (0 : Int) ≤ g.1 0; omega, by show g.1 0 ≤ (0 : Int); omega⟩ (ei_cons ⟨by show (1 : Int) ≤ g.1 1; omega, by show g.1 1 ≤ (1 : Int); omega⟩ (ei_cons ⟨by show ((-2147483648) : Int) ≤ g.1 2; omega, by show g.1 2 ≤ (2147483647 : Int); omega⟩ (ei_cons ⟨by show (0 : Int) ≤ g.1 3; omega, by show g.1 3 ≤ (35 : Int); omega⟩ (ei_cons ⟨by show ((-2147483648) : Int) ≤ g.1 4; omega, by show g.1 4 ≤ (2147483647 : Int); omega⟩ (ei_cons ⟨by show ((-2147483648) : Int) ≤ g.1 5; omega, by show g.1 5 ≤ (2147483647 : Int); omega⟩ (ei_cons ⟨by show ((-2147483648) : Int) ≤ g.1 6; omega, by show g.1 6 ≤ (2147483647 : Int); omega⟩ (ei_cons ⟨by show ((-2147483648) : Int) ≤ g.1 7; omega, by show g.1 7 ≤ (2147483647 : Int); omega⟩ (ei_cons ⟨by show (1 : Int) ≤ 1; omega, by show 1 ≤ (1 : Int); omega⟩ ei_nil))))))))) el_nil (by rfl) dl_nil gd_nil hH hE FR.rf)
  · have z : 0 ≤ X1.1 9 2 ∧ X1.1 9 2 ≤ 35 := hm 2 (by show (2 : Int) < X1.1 7 4; omega)
    exact (altM_mk 3 [1] rfl (ei_cons ⟨by show (0 : Int) ≤ g.1 0; omega, by show g.1 0 ≤ (0 : Int); omega⟩ (ei_cons ⟨by show (2 : Int) ≤ g.1 1; omega, by show g.1 1 ≤ (2 : Int); omega⟩ (ei_cons ⟨by show ((-2147483648) : Int) ≤ g.1 2; omega, by show g.1 2 ≤ (2147483647 : Int); omega⟩ (ei_cons ⟨by show ((-2147483648) : Int) ≤ g.1 3; omega, by show g.1 3 ≤ (2147483647 : Int); omega⟩ (ei_cons ⟨by show (0 : Int) ≤ g.1 4; omega, by show g.1 4 ≤ (35 : Int); omega⟩ (ei_cons ⟨by show ((-2147483648) : Int) ≤ g.1 5; omega, by show g.1 5 ≤ (2147483647 : Int); omega⟩ (ei_cons ⟨by show ((-2147483648) : Int) ≤ g.1 6; omega, by show g.1 6 ≤ (2147483647 : Int); omega⟩ (ei_cons ⟨by show ((-2147483648) : Int) ≤ g.1 7; omega, by show g.1 7 ≤ (2147483647 : Int); omega⟩ (ei_cons ⟨by show (1 : Int) ≤ 1; omega, by show 1 ≤ (1 : Int); omega⟩ ei_nil))))))))) el_nil (by rfl) dl_nil gd_nil hH hE FR.rf)
  · have z : 0 ≤ X1.1 9 3 ∧ X1.1 9 3 ≤ 35 := hm 3 (by show (3 : Int) < X1.1 7 4; omega)
    exact (altM_mk 4 [1] rfl (ei_cons ⟨by show (0 : Int) ≤ g.1 0; omega, by show g.1 0 ≤ (0 : Int); omega⟩ (ei_cons ⟨by show (3 : Int) ≤ g.1 1; omega, by show g.1 1 ≤ (3 : Int); omega⟩ (ei_cons ⟨by show ((-2147483648) : Int) ≤ g.1 2; omega, by show g.1 2 ≤ (2147483647 : Int); omega⟩ (ei_cons ⟨by show ((-2147483648) : Int) ≤ g.1 3; omega, by show g.1 3 ≤ (2147483647 : Int); omega⟩ (ei_cons ⟨by show ((-2147483648) : Int) ≤ g.1 4; omega, by show g.1 4 ≤ (2147483647 : Int); omega⟩ (ei_cons ⟨by show (0 : Int) ≤ g.1 5; omega, by show g.1 5 ≤ (35 : Int); omega⟩ (ei_cons ⟨by show ((-2147483648) : Int) ≤ g.1 6; omega, by show g.1 6 ≤ (2147483647 : Int); omega⟩ (ei_cons ⟨by show ((-2147483648) : Int) ≤ g.1 7; omega, by show g.1 7 ≤ (2147483647 : Int); omega⟩ (ei_cons ⟨by show (1 : Int) ≤ 1; omega, by show 1 ≤ (1 : Int); omega⟩ ei_nil))))))))) el_nil (by rfl) dl_nil gd_nil hH hE FR.rf)
  · have z : 0 ≤ X1.1 9 4 ∧ X1.1 9 4 ≤ 35 := hm 4 (by show (4 : Int) < X1.1 7 4; omega)
    exact (altM_mk 5 [1] rfl (ei_cons ⟨by show (0 : Int) ≤ g.1 0; omega, by show g.1 0 ≤ (0 : Int); omega⟩ (ei_cons ⟨by show (4 : Int) ≤ g.1 1; omega, by show g.1 1 ≤ (4 : Int); omega⟩ (ei_cons ⟨by show ((-2147483648) : Int) ≤ g.1 2; omega, by show g.1 2 ≤ (2147483647 : Int); omega⟩ (ei_cons ⟨by show ((-2147483648) : Int) ≤ g.1 3; omega, by show g.1 3 ≤ (2147483647 : Int); omega⟩ (ei_cons ⟨by show ((-2147483648) : Int) ≤ g.1 4; omega, by show g.1 4 ≤ (2147483647 : Int); omega⟩ (ei_cons ⟨by show ((-2147483648) : Int) ≤ g.1 5; omega, by show g.1 5 ≤ (2147483647 : Int); omega⟩ (ei_cons ⟨by show (0 : Int) ≤ g.1 6; omega, by show g.1 6 ≤ (35 : Int); omega⟩ (ei_cons ⟨by show ((-2147483648) : Int) ≤ g.1 7; omega, by show g.1 7 ≤ (2147483647 : Int); omega⟩ (ei_cons ⟨by show (1 : Int) ≤ 1; omega, by show 1 ≤ (1 : Int); omega⟩ ei_nil))))))))) el_nil (by rfl) dl_nil gd_nil hH hE FR.rf)
  · have z : 0 ≤ X1.1 9 5 ∧ X1.1 9 5 ≤ 35 := hm 5 (by show (5 : Int) < X1.1 7 4; omega)
    exact (altM_mk 6 [1] rfl (ei_cons ⟨by show (0 : Int) ≤ g.1 0; omega, by show g.1 0 ≤ (0 : Int); omega⟩ (ei_cons ⟨by show (5 : Int) ≤ g.1 1; omega, by show g.1 1 ≤ (5 : Int); omega⟩ (ei_cons ⟨by show ((-2147483648) : Int) ≤ g.1 2; omega, by show g.1 2 ≤ (2147483647 : Int); omega⟩ (ei_cons ⟨by show ((-2147483648) : Int) ≤ g.1 3; omega, by show g.1 3 ≤ (2147483647 : Int); omega⟩ (ei_cons ⟨by show ((-2147483648) : Int) ≤ g.1 4; omega, by show g.1 4 ≤ (2147483647 : Int); omega⟩ (ei_cons ⟨by show ((-2147483648) : Int) ≤ g.1 5; omega, by show g.1 5 ≤ (2147483647 : Int); omega⟩ (ei_cons ⟨by show ((-2147483648) : Int) ≤ g.1 6; omega, by show g.1 6 ≤ (2147483647 : Int); omega⟩ (ei_cons ⟨by show (0 : Int) ≤ g.1 7; omega, by show g.1 7 ≤ (35 : Int); omega⟩ (ei_cons ⟨by show (1 : Int) ≤ 1; omega, by show 1 ≤ (1 : Int); omega⟩ ei_nil))))))))) el_nil (by rfl) dl_nil gd_nil hH hE FR.rf)
set_option maxHeartbeats 4000000 in
set_option maxRecDepth 100000 in
theorem xf_hasMan10 {D : va_G} {ad : Nat → Nat} {cA : Nat → ClassId} {X : XT} {n : Int} (nn : inR n) (hH : HG vX X) : MetX (wX D ad cA) yX0_hasMan cX0_hasMan 2 (some .boolean) 0 0 [.ref 10, .int (iI (n))] X (fun r X' => X' = X ∧ ∃ u : Int, r = some (.int (iI u)) ∧ ((u = 0) ∨ (u = 1 ∧ 0 ≤ n ∧ n < X.1 10 4 ∧ X.1 10 4 ≤ 6))) := by
  unfold inR at nn
  have m6 : (0 : Int) ≤ X.1 10 4 ∧ X.1 10 4 ≤ (6 : Int) := hH.rF (k := 10) (i := 4) (p := (0, 6)) rfl rfl
  refine MetX.mk (own := RX0) (by decide +kernel) rfl (nle rfl) (fun E C hQ => ?_)
  refine Wx_lv (lv' := [(0, .ref 10), (1, .int (iI (n)))]) rfl ?_
  refine x_iload_n (i := 1) C dX0_hasMan_0 rfl rfl ?_
  refine x_if_lt (tgt := 16) C dX0_hasMan_1 (by decide) ⟨by omega, by omega⟩ (fun h1 => ?_) (fun h1 => ?_)
  · refine x_iconst C dX0_hasMan_16 ?_
    exact x_zret C hQ (by omega) dX0_hasMan_17 (⟨rfl, _, rfl, by omega⟩)
  · refine x_iload_n (i := 1) C dX0_hasMan_4 rfl rfl ?_
    refine x_aload_n (i := 0) C dX0_hasMan_5 rfl rfl ?_
    refine x_getI C fkX_X0_32 (nlt rfl) rfl dX0_hasMan_6 ?_
    refine x_gen (fun v2 ev2 => ?_)
    have qv2 : (0 : Int) ≤ v2 ∧ v2 ≤ (6 : Int) := by
      rw [ev2]
      exact hH.rF (k := 10) (i := 4) rfl rfl
    refine x_icmp_ge (tgt := 16) C dX0_hasMan_9 (by decide) ⟨by omega, by omega⟩ ⟨by omega, by omega⟩ (fun h3 => ?_) (fun h3 => ?_)
    · refine x_iconst C dX0_hasMan_16 ?_
      exact x_zret C hQ (by omega) dX0_hasMan_17 (⟨rfl, _, rfl, by omega⟩)
    · refine x_iconst C dX0_hasMan_12 ?_
      refine x_goto (tgt := 17) C dX0_hasMan_13 (by decide) ?_
      exact x_zret C hQ (by omega) dX0_hasMan_17 (⟨rfl, _, rfl, by omega⟩)
set_option maxRecDepth 10000 in
theorem t_X_48 {D : va_G} {ad : Nat → Nat} {cA : Nat → ClassId} : CTR mtX vX gX (wX D ad cA) k_X_48 := by
  intro g X hpre
  obtain ⟨h00, hei, hel, hdl, hH, hE⟩ := hpre
  have h0 : (0 : Int) ≤ g.1 0 ∧ g.1 0 ≤ (0 : Int) := hei 0 _ rfl
  have h1 : ((-2147483648) : Int) ≤ g.1 1 ∧ g.1 1 ≤ (2147483647 : Int) := hei 1 _ rfl
  have h2 : ((-2147483648) : Int) ≤ g.1 2 ∧ g.1 2 ≤ (2147483647 : Int) := hei 2 _ rfl
  have h3 : ((-2147483648) : Int) ≤ g.1 3 ∧ g.1 3 ≤ (2147483647 : Int) := hei 3 _ rfl
  have h4 : ((-2147483648) : Int) ≤ g.1 4 ∧ g.1 4 ≤ (2147483647 : Int) := hei 4 _ rfl
  have h5 : ((-2147483648) : Int) ≤ g.1 5 ∧ g.1 5 ≤ (2147483647 : Int) := hei 5 _ rfl
  have h6 : ((-2147483648) : Int) ≤ g.1 6 ∧ g.1 6 ≤ (2147483647 : Int) := hei 6 _ rfl
  have h7 : ((-2147483648) : Int) ≤ g.1 7 ∧ g.1 7 ≤ (2147483647 : Int) := hei 7 _ rfl
  have f0 : X.1 12 0 = g.1 2 + 0 := (hdl ((12, 0), (0, 2, 0)) (.head _))
  have f1 : X.1 12 1 = g.1 3 + 0 := (hdl ((12, 1), (0, 3, 0)) (.tail _ (.head _)))
  have f2 : X.1 12 2 = g.1 4 + 0 := (hdl ((12, 2), (0, 4, 0)) (.tail _ (.tail _ (.head _))))
  have f3 : X.1 12 3 = g.1 5 + 0 := (hdl ((12, 3), (0, 5, 0)) (.tail _ (.tail _ (.tail _ (.head _)))))
  have f4 : X.1 12 4 = g.1 6 + 0 := (hdl ((12, 4), (0, 6, 0)) (.tail _ (.tail _ (.tail _ (.tail _ (.head _))))))
  have f5 : X.1 12 5 = g.1 7 + 0 := (hdl ((12, 5), (0, 7, 0)) (.tail _ (.tail _ (.tail _ (.tail _ (.tail _ (.head _)))))))
  refine MetX.imp (fun r X1 hp => ?_) (xf_hasMan10 (X := X) (n := g.1 1 + 0) ⟨by omega, by omega⟩ hH)
  obtain ⟨rfl, u, rfl, rfl | ⟨rfl, n0, n1, n6⟩⟩ := hp
  · exact (altM_mk 0 [0] rfl (ei_cons ⟨by show (0 : Int) ≤ g.1 0; omega, by show g.1 0 ≤ (0 : Int); omega⟩ (ei_cons ⟨by show ((-2147483648) : Int) ≤ g.1 1; omega, by show g.1 1 ≤ (2147483647 : Int); omega⟩ (ei_cons ⟨by show ((-2147483648) : Int) ≤ g.1 2; omega, by show g.1 2 ≤ (2147483647 : Int); omega⟩ (ei_cons ⟨by show ((-2147483648) : Int) ≤ g.1 3; omega, by show g.1 3 ≤ (2147483647 : Int); omega⟩ (ei_cons ⟨by show ((-2147483648) : Int) ≤ g.1 4; omega, by show g.1 4 ≤ (2147483647 : Int); omega⟩ (ei_cons ⟨by show ((-2147483648) : Int) ≤ g.1 5; omega, by show g.1 5 ≤ (2147483647 : Int); omega⟩ (ei_cons ⟨by show ((-2147483648) : Int) ≤ g.1 6; omega, by show g.1 6 ≤ (2147483647 : Int); omega⟩ (ei_cons ⟨by show ((-2147483648) : Int) ≤ g.1 7; omega, by show g.1 7 ≤ (2147483647 : Int); omega⟩ (ei_cons ⟨by show (0 : Int) ≤ 0; omega, by show 0 ≤ (0 : Int); omega⟩ ei_nil))))))))) el_nil (by rfl) dl_nil gd_nil hH hE FR.rf)
  have hm := hE (10, 12) (by decide)
  rcases (show g.1 1 + 0 = 0 ∨ g.1 1 + 0 = 1 ∨ g.1 1 + 0 = 2 ∨ g.1 1 + 0 = 3 ∨ g.1 1 + 0 = 4 ∨ g.1 1 + 0 = 5 by omega) with q | q | q | q | q | q
  · have z : 0 ≤ X1.1 12 0 ∧ X1.1 12 0 ≤ 35 := hm 0 (by show (0 : Int) < X1.1 10 4; omega)
    exact (altM_mk 1 [1] rfl (ei_cons ⟨by show (0 : Int) ≤ g.1 0; omega, by show g.1 0 ≤ (0 : Int); omega⟩ (ei_cons ⟨by show (0 : Int) ≤ g.1 1; omega, by show g.1 1 ≤ (0 : Int); omega⟩ (ei_cons ⟨by show (0 : Int) ≤ g.1 2; omega, by show g.1 2 ≤ (35 : Int); omega⟩ (ei_cons ⟨by show ((-2147483648) : Int) ≤ g.1 3; omega, by show g.1 3 ≤ (2147483647 : Int); omega⟩ (ei_cons ⟨by show ((-2147483648) : Int) ≤ g.1 4; omega, by show g.1 4 ≤ (2147483647 : Int); omega⟩ (ei_cons ⟨by show ((-2147483648) : Int) ≤ g.1 5; omega, by show g.1 5 ≤ (2147483647 : Int); omega⟩ (ei_cons ⟨by show ((-2147483648) : Int) ≤ g.1 6; omega, by show g.1 6 ≤ (2147483647 : Int); omega⟩ (ei_cons ⟨by show ((-2147483648) : Int) ≤ g.1 7; omega, by show g.1 7 ≤ (2147483647 : Int); omega⟩ (ei_cons ⟨by show (1 : Int) ≤ 1; omega, by show 1 ≤ (1 : Int); omega⟩ ei_nil))))))))) el_nil (by rfl) dl_nil gd_nil hH hE FR.rf)
  · have z : 0 ≤ X1.1 12 1 ∧ X1.1 12 1 ≤ 35 := hm 1 (by show (1 : Int) < X1.1 10 4; omega)
    exact (altM_mk 2 [1] rfl (ei_cons ⟨by show (0 : Int) ≤ g.1 0; omega, by show g.1 0 ≤ (0 : Int); omega⟩ (ei_cons ⟨by show (1 : Int) ≤ g.1 1; omega, by show g.1 1 ≤ (1 : Int); omega⟩ (ei_cons ⟨by show ((-2147483648) : Int) ≤ g.1 2; omega, by show g.1 2 ≤ (2147483647 : Int); omega⟩ (ei_cons ⟨by show (0 : Int) ≤ g.1 3; omega, by show g.1 3 ≤ (35 : Int); omega⟩ (ei_cons ⟨by show ((-2147483648) : Int) ≤ g.1 4; omega, by show g.1 4 ≤ (2147483647 : Int); omega⟩ (ei_cons ⟨by show ((-2147483648) : Int) ≤ g.1 5; omega, by show g.1 5 ≤ (2147483647 : Int); omega⟩ (ei_cons ⟨by show ((-2147483648) : Int) ≤ g.1 6; omega, by show g.1 6 ≤ (2147483647 : Int); omega⟩ (ei_cons ⟨by show ((-2147483648) : Int) ≤ g.1 7; omega, by show g.1 7 ≤ (2147483647 : Int); omega⟩ (ei_cons ⟨by show (1 : Int) ≤ 1; omega, by show 1 ≤ (1 : Int); omega⟩ ei_nil))))))))) el_nil (by rfl) dl_nil gd_nil hH hE FR.rf)
  · have z : 0 ≤ X1.1 12 2 ∧ X1.1 12 2 ≤ 35 := hm 2 (by show (2 : Int) < X1.1 10 4; omega)
    exact (altM_mk 3 [1] rfl (ei_cons ⟨by show (0 : Int) ≤ g.1 0; omega, by show g.1 0 ≤ (0 : Int); omega⟩ (ei_cons ⟨by show (2 : Int) ≤ g.1 1; omega, by show g.1 1 ≤ (2 : Int); omega⟩ (ei_cons ⟨by show ((-2147483648) : Int) ≤ g.1 2; omega, by show g.1 2 ≤ (2147483647 : Int); omega⟩ (ei_cons ⟨by show ((-2147483648) : Int) ≤ g.1 3; omega, by show g.1 3 ≤ (2147483647 : Int); omega⟩ (ei_cons ⟨by show (0 : Int) ≤ g.1 4; omega, by show g.1 4 ≤ (35 : Int); omega⟩ (ei_cons ⟨by show ((-2147483648) : Int) ≤ g.1 5; omega, by show g.1 5 ≤ (2147483647 : Int); omega⟩ (ei_cons ⟨by show ((-2147483648) : Int) ≤ g.1 6; omega, by show g.1 6 ≤ (2147483647 : Int); omega⟩ (ei_cons ⟨by show ((-2147483648) : Int) ≤ g.1 7; omega, by show g.1 7 ≤ (2147483647 : Int); omega⟩ (ei_cons ⟨by show (1 : Int) ≤ 1; omega, by show 1 ≤ (1 : Int); omega⟩ ei_nil))))))))) el_nil (by rfl) dl_nil gd_nil hH hE FR.rf)
  · have z : 0 ≤ X1.1 12 3 ∧ X1.1 12 3 ≤ 35 := hm 3 (by show (3 : Int) < X1.1 10 4; omega)
    exact (altM_mk 4 [1] rfl (ei_cons ⟨by show (0 : Int) ≤ g.1 0; omega, by show g.1 0 ≤ (0 : Int); omega⟩ (ei_cons ⟨by show (3 : Int) ≤ g.1 1; omega, by show g.1 1 ≤ (3 : Int); omega⟩ (ei_cons ⟨by show ((-2147483648) : Int) ≤ g.1 2; omega, by show g.1 2 ≤ (2147483647 : Int); omega⟩ (ei_cons ⟨by show ((-2147483648) : Int) ≤ g.1 3; omega, by show g.1 3 ≤ (2147483647 : Int); omega⟩ (ei_cons ⟨by show ((-2147483648) : Int) ≤ g.1 4; omega, by show g.1 4 ≤ (2147483647 : Int); omega⟩ (ei_cons ⟨by show (0 : Int) ≤ g.1 5; omega, by show g.1 5 ≤ (35 : Int); omega⟩ (ei_cons ⟨by show ((-2147483648) : Int) ≤ g.1 6; omega, by show g.1 6 ≤ (2147483647 : Int); omega⟩ (ei_cons ⟨by show ((-2147483648) : Int) ≤ g.1 7; omega, by show g.1 7 ≤ (2147483647 : Int); omega⟩ (ei_cons ⟨by show (1 : Int) ≤ 1; omega, by show 1 ≤ (1 : Int); omega⟩ ei_nil))))))))) el_nil (by rfl) dl_nil gd_nil hH hE FR.rf)
  · have z : 0 ≤ X1.1 12 4 ∧ X1.1 12 4 ≤ 35 := hm 4 (by show (4 : Int) < X1.1 10 4; omega)
    exact (altM_mk 5 [1] rfl (ei_cons ⟨by show (0 : Int) ≤ g.1 0; omega, by show g.1 0 ≤ (0 : Int); omega⟩ (ei_cons ⟨by show (4 : Int) ≤ g.1 1; omega, by show g.1 1 ≤ (4 : Int); omega⟩ (ei_cons ⟨by show ((-2147483648) : Int) ≤ g.1 2; omega, by show g.1 2 ≤ (2147483647 : Int); omega⟩ (ei_cons ⟨by show ((-2147483648) : Int) ≤ g.1 3; omega, by show g.1 3 ≤ (2147483647 : Int); omega⟩ (ei_cons ⟨by show ((-2147483648) : Int) ≤ g.1 4; omega, by show g.1 4 ≤ (2147483647 : Int); omega⟩ (ei_cons ⟨by show ((-2147483648) : Int) ≤ g.1 5; omega, by show g.1 5 ≤ (2147483647 : Int); omega⟩ (ei_cons ⟨by show (0 : Int) ≤ g.1 6; omega, by show g.1 6 ≤ (35 : Int); omega⟩ (ei_cons ⟨by show ((-2147483648) : Int) ≤ g.1 7; omega, by show g.1 7 ≤ (2147483647 : Int); omega⟩ (ei_cons ⟨by show (1 : Int) ≤ 1; omega, by show 1 ≤ (1 : Int); omega⟩ ei_nil))))))))) el_nil (by rfl) dl_nil gd_nil hH hE FR.rf)
  · have z : 0 ≤ X1.1 12 5 ∧ X1.1 12 5 ≤ 35 := hm 5 (by show (5 : Int) < X1.1 10 4; omega)
    exact (altM_mk 6 [1] rfl (ei_cons ⟨by show (0 : Int) ≤ g.1 0; omega, by show g.1 0 ≤ (0 : Int); omega⟩ (ei_cons ⟨by show (5 : Int) ≤ g.1 1; omega, by show g.1 1 ≤ (5 : Int); omega⟩ (ei_cons ⟨by show ((-2147483648) : Int) ≤ g.1 2; omega, by show g.1 2 ≤ (2147483647 : Int); omega⟩ (ei_cons ⟨by show ((-2147483648) : Int) ≤ g.1 3; omega, by show g.1 3 ≤ (2147483647 : Int); omega⟩ (ei_cons ⟨by show ((-2147483648) : Int) ≤ g.1 4; omega, by show g.1 4 ≤ (2147483647 : Int); omega⟩ (ei_cons ⟨by show ((-2147483648) : Int) ≤ g.1 5; omega, by show g.1 5 ≤ (2147483647 : Int); omega⟩ (ei_cons ⟨by show ((-2147483648) : Int) ≤ g.1 6; omega, by show g.1 6 ≤ (2147483647 : Int); omega⟩ (ei_cons ⟨by show (0 : Int) ≤ g.1 7; omega, by show g.1 7 ≤ (35 : Int); omega⟩ (ei_cons ⟨by show (1 : Int) ≤ 1; omega, by show 1 ≤ (1 : Int); omega⟩ ei_nil))))))))) el_nil (by rfl) dl_nil gd_nil hH hE FR.rf)
set_option maxHeartbeats 4000000 in
set_option maxRecDepth 100000 in
theorem xf_copy146_7 {D : va_G} {ad : Nat → Nat} {cA : Nat → ClassId} {X : XT} (hH : HG vX X) (hF : FR (cMd k_X_406) X X) : MetX (wX D ad cA) yX0_copy cX0_copy 2 none 1 60 [.ref 146, .ref 7] X (fun r X1 => r = none ∧ HG vX X1 ∧ FR (cMd k_X_406) X X1 ∧ X1.1 146 4 = X.1 7 4 ∧ (∀ j, j < 6 → X1.1 148 j = X.1 9 j)) := by
  refine MetX.mk (own := RX0) (by decide +kernel) rfl (nle rfl) (fun E C hQ => ?_)
  refine Wx_lv (lv' := [(0, .ref 146), (1, .ref 7)]) rfl ?_
  refine x_aload_n (i := 0) C dX0_copy_0 rfl rfl ?_
  refine x_aload_n (i := 1) C dX0_copy_1 rfl rfl ?_
  refine x_getI C fkX_X0_18 (nlt rfl) rfl dX0_copy_2 ?_
  refine x_gen (fun v1 ev1 => ?_)
  have qv1 : (0 : Int) ≤ v1 ∧ v1 ≤ (6 : Int) := by
    rw [ev1]
    exact hH.rF (k := 7) (i := 0) rfl rfl
  refine x_putI C pkX_X0_18 (nlt rfl) rfl dX0_copy_5 ?_
  refine x_gX (fun Yy2 eYy2 => ?_)
  have hHy2 : HG vX Yy2 := by
    rw [eYy2]
    exact hg_wF hH (p := (0, 6)) rfl ⟨by omega, by omega⟩
  have hFy2 : FR (cMd k_X_406) X Yy2 := by
    rw [eYy2]
    exact FR.upI hF (rfl)
  replace eYy2 : Yy2 = upI X 146 0 (v1) := eYy2
  refine x_aload_n (i := 0) C dX0_copy_8 rfl rfl ?_
  refine x_aload_n (i := 1) C dX0_copy_9 rfl rfl ?_
  refine x_getI C fkX_X0_22 (nlt rfl) rfl dX0_copy_10 ?_
  refine x_gen (fun v3 ev3 => ?_)
  have qv3 : (0 : Int) ≤ v3 ∧ v3 ≤ (6 : Int) := by
    rw [ev3]
    exact hHy2.rF (k := 7) (i := 1) rfl rfl
  refine x_putI C pkX_X0_22 (nlt rfl) rfl dX0_copy_13 ?_
  refine x_gX (fun Yy4 eYy4 => ?_)
  have hHy4 : HG vX Yy4 := by
    rw [eYy4]
    exact hg_wF hHy2 (p := (0, 6)) rfl ⟨by omega, by omega⟩
  have hFy4 : FR (cMd k_X_406) X Yy4 := by
    rw [eYy4]
    exact FR.upI hFy2 (rfl)
  replace eYy4 : Yy4 = upI Yy2 146 1 (v3) := eYy4
  refine x_aload_n (i := 0) C dX0_copy_16 rfl rfl ?_
  refine x_aload_n (i := 1) C dX0_copy_17 rfl rfl ?_
  refine x_getL C fkX_X0_25 (nlt rfl) rfl dX0_copy_18 ?_
  refine x_genL (fun l5 el5 => ?_)
  refine x_putL C pkX_X0_25 (nlt rfl) rfl dX0_copy_21 ?_
  refine x_gX (fun Yy6 eYy6 => ?_)
  have hHy6 : HG vX Yy6 := by
    rw [eYy6]
    exact hg_wLF hHy4 (p := ((-9223372036854775808), 9223372036854775807)) rfl (l64 _)
  have hFy6 : FR (cMd k_X_406) X Yy6 := by
    rw [eYy6]
    exact FR.upL hFy4 (rfl)
  replace eYy6 : Yy6 = upL Yy4 146 2 (l5) := eYy6
  refine x_aload_n (i := 0) C dX0_copy_24 rfl rfl ?_
  refine x_aload_n (i := 1) C dX0_copy_25 rfl rfl ?_
  refine x_getL C fkX_X0_29 (nlt rfl) rfl dX0_copy_26 ?_
  refine x_genL (fun l7 el7 => ?_)
  refine x_putL C pkX_X0_29 (nlt rfl) rfl dX0_copy_29 ?_
  refine x_gX (fun Yy8 eYy8 => ?_)
  have hHy8 : HG vX Yy8 := by
    rw [eYy8]
    exact hg_wLF hHy6 (p := ((-9223372036854775808), 9223372036854775807)) rfl (l64 _)
  have hFy8 : FR (cMd k_X_406) X Yy8 := by
    rw [eYy8]
    exact FR.upL hFy6 (rfl)
  replace eYy8 : Yy8 = upL Yy6 146 3 (l7) := eYy8
  refine x_aload_n (i := 0) C dX0_copy_32 rfl rfl ?_
  refine x_aload_n (i := 1) C dX0_copy_33 rfl rfl ?_
  refine x_getI C fkX_X0_32 (nlt rfl) rfl dX0_copy_34 ?_
  refine x_gen (fun v9 ev9 => ?_)
  have qv9 : (0 : Int) ≤ v9 ∧ v9 ≤ (6 : Int) := by
    rw [ev9]
    exact hHy8.rF (k := 7) (i := 4) rfl rfl
  refine x_putI C pkX_X0_32 (nlt rfl) rfl dX0_copy_37 ?_
  refine x_gX (fun Yy10 eYy10 => ?_)
  have hHy10 : HG vX Yy10 := by
    rw [eYy10]
    exact hg_wF hHy8 (p := (0, 6)) rfl ⟨by omega, by omega⟩
  have hFy10 : FR (cMd k_X_406) X Yy10 := by
    rw [eYy10]
    exact FR.upI hFy8 (rfl)
  replace eYy10 : Yy10 = upI Yy8 146 4 (v9) := eYy10
  refine x_aload_n (i := 1) C dX0_copy_40 rfl rfl ?_
  refine x_getRs (r := 8) C fkX_X0_9 (nlt rfl) rfl (HG.rR hHy10 (k := 7) (i := 5) rfl rfl) dX0_copy_41 ?_
  refine x_iconst C dX0_copy_44 ?_
  refine x_aload_n (i := 0) C dX0_copy_45 rfl rfl ?_
  refine x_getRs (r := 147) C fkX_X0_9 (nlt rfl) rfl (HG.rR hHy10 (k := 146) (i := 5) rfl rfl) dX0_copy_46 ?_
  refine x_iconst C dX0_copy_49 ?_
  refine x_bipush C dX0_copy_50 (by decide) ?_
  refine x_cpyI C cpX0_35 (nlt rfl) rfl rfl (nlt rfl) rfl rfl rfl (by omega) (by omega) (by omega) (by omega) (by omega) (nle rfl) (nle rfl) (nle rfl) (nle rfl) dX0_copy_52 ?_
  refine x_gX (fun Yy11 eYy11 => ?_)
  have hHy11 : HG vX Yy11 := by
    rw [eYy11]
    exact HG.cpI hHy10 (nlt rfl) rfl (nle rfl) (by decide +kernel)
  have hFy11 : FR (cMd k_X_406) X Yy11 := by
    rw [eYy11]
    exact FR.cpI hFy10 (fun _ => rfl)
  refine x_aload_n (i := 1) C dX0_copy_55 rfl rfl ?_
  refine x_getRs (r := 9) C fkX_X0_15 (nlt rfl) rfl (HG.rR hHy11 (k := 7) (i := 6) rfl rfl) dX0_copy_56 ?_
  refine x_iconst C dX0_copy_59 ?_
  refine x_aload_n (i := 0) C dX0_copy_60 rfl rfl ?_
  refine x_getRs (r := 148) C fkX_X0_15 (nlt rfl) rfl (HG.rR hHy11 (k := 146) (i := 6) rfl rfl) dX0_copy_61 ?_
  refine x_iconst C dX0_copy_64 ?_
  refine x_bipush C dX0_copy_65 (by decide) ?_
  refine x_cpyI C cpX0_35 (nlt rfl) rfl rfl (nlt rfl) rfl rfl rfl (by omega) (by omega) (by omega) (by omega) (by omega) (nle rfl) (nle rfl) (nle rfl) (nle rfl) dX0_copy_67 ?_
  refine x_gX (fun Yy12 eYy12 => ?_)
  have hHy12 : HG vX Yy12 := by
    rw [eYy12]
    exact HG.cpI hHy11 (nlt rfl) rfl (nle rfl) (by decide +kernel)
  have hFy12 : FR (cMd k_X_406) X Yy12 := by
    rw [eYy12]
    exact FR.cpI hFy11 (fun _ => rfl)
  exact x_vret C hQ dX0_copy_70 (⟨rfl, hHy12, hFy12, by rw [eYy12, cpI_o1 (by decide), eYy11, cpI_o1 (by decide), eYy10, upI_at, ev9, (hFy8 7 4 rfl).1], fun j hj => by rw [eYy12, cpI_r hj, eYy11, cpI_o1 (by decide), (hFy10 9 j rfl).1]⟩)
set_option maxRecDepth 10000 in
theorem t_X_406 {D : va_G} {ad : Nat → Nat} {cA : Nat → ClassId} : CTR mtX vX gX (wX D ad cA) k_X_406 := by
  intro g X hpre
  obtain ⟨h00, hei, hel, hdl, hH, hE⟩ := hpre
  have h0 : (0 : Int) ≤ g.1 0 ∧ g.1 0 ≤ (0 : Int) := hei 0 _ rfl
  refine MetX.imp (fun r X1 hp => ?_) (xf_copy146_7 (X := X) hH FR.rf)
  obtain ⟨rfl, hH1, hF1, hm, hf⟩ := hp
  have hE1 : MENOK X1 := by
    intro q hq j hj
    by_cases hc : q = (146, 148)
    · subst hc
      have m6 : (0 : Int) ≤ X.1 7 4 ∧ X.1 7 4 ≤ (6 : Int) := hH.rF (k := 7) (i := 4) (p := (0, 6)) rfl rfl
      have hj2 : (j : Int) < X.1 7 4 := by rw [← hm]; exact hj
      show 0 ≤ X1.1 148 j ∧ X1.1 148 j ≤ 35
      rw [hf j (by omega)]
      exact hE (7, 9) (by decide) j hj2
    · have no : ∀ p ∈ tb8, p ≠ (146, 148) → ∀ i, inM (cMd k_X_406) p.1 i = false ∧ inM (cMd k_X_406) p.2 i = false := noM (by decide +kernel)
      rw [(hF1 q.2 j (no q hq hc j).2).1]
      rw [(hF1 q.1 _ (no q hq hc _).1).1] at hj
      exact hE q hq j hj
  exact (altM_mk 0 [] rfl (ei_cons ⟨by show (0 : Int) ≤ g.1 0; omega, by show g.1 0 ≤ (0 : Int); omega⟩ ei_nil) el_nil (by rfl) dl_nil gd_nil hH1 hE1 hF1)
set_option maxHeartbeats 4000000 in
set_option maxRecDepth 100000 in
theorem xf_copy149_10 {D : va_G} {ad : Nat → Nat} {cA : Nat → ClassId} {X : XT} (hH : HG vX X) (hF : FR (cMd k_X_407) X X) : MetX (wX D ad cA) yX0_copy cX0_copy 2 none 1 60 [.ref 149, .ref 10] X (fun r X1 => r = none ∧ HG vX X1 ∧ FR (cMd k_X_407) X X1 ∧ X1.1 149 4 = X.1 10 4 ∧ (∀ j, j < 6 → X1.1 151 j = X.1 12 j)) := by
  refine MetX.mk (own := RX0) (by decide +kernel) rfl (nle rfl) (fun E C hQ => ?_)
  refine Wx_lv (lv' := [(0, .ref 149), (1, .ref 10)]) rfl ?_
  refine x_aload_n (i := 0) C dX0_copy_0 rfl rfl ?_
  refine x_aload_n (i := 1) C dX0_copy_1 rfl rfl ?_
  refine x_getI C fkX_X0_18 (nlt rfl) rfl dX0_copy_2 ?_
  refine x_gen (fun v1 ev1 => ?_)
  have qv1 : (0 : Int) ≤ v1 ∧ v1 ≤ (6 : Int) := by
    rw [ev1]
    exact hH.rF (k := 10) (i := 0) rfl rfl
  refine x_putI C pkX_X0_18 (nlt rfl) rfl dX0_copy_5 ?_
  refine x_gX (fun Yy2 eYy2 => ?_)
  have hHy2 : HG vX Yy2 := by
    rw [eYy2]
    exact hg_wF hH (p := (0, 6)) rfl ⟨by omega, by omega⟩
  have hFy2 : FR (cMd k_X_407) X Yy2 := by
    rw [eYy2]
    exact FR.upI hF (rfl)
  replace eYy2 : Yy2 = upI X 149 0 (v1) := eYy2
  refine x_aload_n (i := 0) C dX0_copy_8 rfl rfl ?_
  refine x_aload_n (i := 1) C dX0_copy_9 rfl rfl ?_
  refine x_getI C fkX_X0_22 (nlt rfl) rfl dX0_copy_10 ?_
  refine x_gen (fun v3 ev3 => ?_)
  have qv3 : (0 : Int) ≤ v3 ∧ v3 ≤ (6 : Int) := by
    rw [ev3]
    exact hHy2.rF (k := 10) (i := 1) rfl rfl
  refine x_putI C pkX_X0_22 (nlt rfl) rfl dX0_copy_13 ?_
  refine x_gX (fun Yy4 eYy4 => ?_)
  have hHy4 : HG vX Yy4 := by
    rw [eYy4]
    exact hg_wF hHy2 (p := (0, 6)) rfl ⟨by omega, by omega⟩
  have hFy4 : FR (cMd k_X_407) X Yy4 := by
    rw [eYy4]
    exact FR.upI hFy2 (rfl)
  replace eYy4 : Yy4 = upI Yy2 149 1 (v3) := eYy4
  refine x_aload_n (i := 0) C dX0_copy_16 rfl rfl ?_
  refine x_aload_n (i := 1) C dX0_copy_17 rfl rfl ?_
  refine x_getL C fkX_X0_25 (nlt rfl) rfl dX0_copy_18 ?_
  refine x_genL (fun l5 el5 => ?_)
  refine x_putL C pkX_X0_25 (nlt rfl) rfl dX0_copy_21 ?_
  refine x_gX (fun Yy6 eYy6 => ?_)
  have hHy6 : HG vX Yy6 := by
    rw [eYy6]
    exact hg_wLF hHy4 (p := ((-9223372036854775808), 9223372036854775807)) rfl (l64 _)
  have hFy6 : FR (cMd k_X_407) X Yy6 := by
    rw [eYy6]
    exact FR.upL hFy4 (rfl)
  replace eYy6 : Yy6 = upL Yy4 149 2 (l5) := eYy6
  refine x_aload_n (i := 0) C dX0_copy_24 rfl rfl ?_
  refine x_aload_n (i := 1) C dX0_copy_25 rfl rfl ?_
  refine x_getL C fkX_X0_29 (nlt rfl) rfl dX0_copy_26 ?_
  refine x_genL (fun l7 el7 => ?_)
  refine x_putL C pkX_X0_29 (nlt rfl) rfl dX0_copy_29 ?_
  refine x_gX (fun Yy8 eYy8 => ?_)
  have hHy8 : HG vX Yy8 := by
    rw [eYy8]
    exact hg_wLF hHy6 (p := ((-9223372036854775808), 9223372036854775807)) rfl (l64 _)
  have hFy8 : FR (cMd k_X_407) X Yy8 := by
    rw [eYy8]
    exact FR.upL hFy6 (rfl)
  replace eYy8 : Yy8 = upL Yy6 149 3 (l7) := eYy8
  refine x_aload_n (i := 0) C dX0_copy_32 rfl rfl ?_
  refine x_aload_n (i := 1) C dX0_copy_33 rfl rfl ?_
  refine x_getI C fkX_X0_32 (nlt rfl) rfl dX0_copy_34 ?_
  refine x_gen (fun v9 ev9 => ?_)
  have qv9 : (0 : Int) ≤ v9 ∧ v9 ≤ (6 : Int) := by
    rw [ev9]
    exact hHy8.rF (k := 10) (i := 4) rfl rfl
  refine x_putI C pkX_X0_32 (nlt rfl) rfl dX0_copy_37 ?_
  refine x_gX (fun Yy10 eYy10 => ?_)
  have hHy10 : HG vX Yy10 := by
    rw [eYy10]
    exact hg_wF hHy8 (p := (0, 6)) rfl ⟨by omega, by omega⟩
  have hFy10 : FR (cMd k_X_407) X Yy10 := by
    rw [eYy10]
    exact FR.upI hFy8 (rfl)
  replace eYy10 : Yy10 = upI Yy8 149 4 (v9) := eYy10
  refine x_aload_n (i := 1) C dX0_copy_40 rfl rfl ?_
  refine x_getRs (r := 11) C fkX_X0_9 (nlt rfl) rfl (HG.rR hHy10 (k := 10) (i := 5) rfl rfl) dX0_copy_41 ?_
  refine x_iconst C dX0_copy_44 ?_
  refine x_aload_n (i := 0) C dX0_copy_45 rfl rfl ?_
  refine x_getRs (r := 150) C fkX_X0_9 (nlt rfl) rfl (HG.rR hHy10 (k := 149) (i := 5) rfl rfl) dX0_copy_46 ?_
  refine x_iconst C dX0_copy_49 ?_
  refine x_bipush C dX0_copy_50 (by decide) ?_
  refine x_cpyI C cpX0_35 (nlt rfl) rfl rfl (nlt rfl) rfl rfl rfl (by omega) (by omega) (by omega) (by omega) (by omega) (nle rfl) (nle rfl) (nle rfl) (nle rfl) dX0_copy_52 ?_
  refine x_gX (fun Yy11 eYy11 => ?_)
  have hHy11 : HG vX Yy11 := by
    rw [eYy11]
    exact HG.cpI hHy10 (nlt rfl) rfl (nle rfl) (by decide +kernel)
  have hFy11 : FR (cMd k_X_407) X Yy11 := by
    rw [eYy11]
    exact FR.cpI hFy10 (fun _ => rfl)
  refine x_aload_n (i := 1) C dX0_copy_55 rfl rfl ?_
  refine x_getRs (r := 12) C fkX_X0_15 (nlt rfl) rfl (HG.rR hHy11 (k := 10) (i := 6) rfl rfl) dX0_copy_56 ?_
  refine x_iconst C dX0_copy_59 ?_
  refine x_aload_n (i := 0) C dX0_copy_60 rfl rfl ?_
  refine x_getRs (r := 151) C fkX_X0_15 (nlt rfl) rfl (HG.rR hHy11 (k := 149) (i := 6) rfl rfl) dX0_copy_61 ?_
  refine x_iconst C dX0_copy_64 ?_
  refine x_bipush C dX0_copy_65 (by decide) ?_
  refine x_cpyI C cpX0_35 (nlt rfl) rfl rfl (nlt rfl) rfl rfl rfl (by omega) (by omega) (by omega) (by omega) (by omega) (nle rfl) (nle rfl) (nle rfl) (nle rfl) dX0_copy_67 ?_
  refine x_gX (fun Yy12 eYy12 => ?_)
  have hHy12 : HG vX Yy12 := by
    rw [eYy12]
    exact HG.cpI hHy11 (nlt rfl) rfl (nle rfl) (by decide +kernel)
  have hFy12 : FR (cMd k_X_407) X Yy12 := by
    rw [eYy12]
    exact FR.cpI hFy11 (fun _ => rfl)
  exact x_vret C hQ dX0_copy_70 (⟨rfl, hHy12, hFy12, by rw [eYy12, cpI_o1 (by decide), eYy11, cpI_o1 (by decide), eYy10, upI_at, ev9, (hFy8 10 4 rfl).1], fun j hj => by rw [eYy12, cpI_r hj, eYy11, cpI_o1 (by decide), (hFy10 12 j rfl).1]⟩)
set_option maxRecDepth 10000 in
theorem t_X_407 {D : va_G} {ad : Nat → Nat} {cA : Nat → ClassId} : CTR mtX vX gX (wX D ad cA) k_X_407 := by
  intro g X hpre
  obtain ⟨h00, hei, hel, hdl, hH, hE⟩ := hpre
  have h0 : (0 : Int) ≤ g.1 0 ∧ g.1 0 ≤ (0 : Int) := hei 0 _ rfl
  refine MetX.imp (fun r X1 hp => ?_) (xf_copy149_10 (X := X) hH FR.rf)
  obtain ⟨rfl, hH1, hF1, hm, hf⟩ := hp
  have hE1 : MENOK X1 := by
    intro q hq j hj
    by_cases hc : q = (149, 151)
    · subst hc
      have m6 : (0 : Int) ≤ X.1 10 4 ∧ X.1 10 4 ≤ (6 : Int) := hH.rF (k := 10) (i := 4) (p := (0, 6)) rfl rfl
      have hj2 : (j : Int) < X.1 10 4 := by rw [← hm]; exact hj
      show 0 ≤ X1.1 151 j ∧ X1.1 151 j ≤ 35
      rw [hf j (by omega)]
      exact hE (10, 12) (by decide) j hj2
    · have no : ∀ p ∈ tb8, p ≠ (149, 151) → ∀ i, inM (cMd k_X_407) p.1 i = false ∧ inM (cMd k_X_407) p.2 i = false := noM (by decide +kernel)
      rw [(hF1 q.2 j (no q hq hc j).2).1]
      rw [(hF1 q.1 _ (no q hq hc _).1).1] at hj
      exact hE q hq j hj
  exact (altM_mk 0 [] rfl (ei_cons ⟨by show (0 : Int) ≤ g.1 0; omega, by show g.1 0 ≤ (0 : Int); omega⟩ ei_nil) el_nil (by rfl) dl_nil gd_nil hH1 hE1 hF1)
set_option maxHeartbeats 4000000 in
set_option maxRecDepth 100000 in
theorem xf_copy128_7 {D : va_G} {ad : Nat → Nat} {cA : Nat → ClassId} {X : XT} (hH : HG vX X) (hF : FR (cMd k_X_411) X X) : MetX (wX D ad cA) yX0_copy cX0_copy 2 none 1 60 [.ref 128, .ref 7] X (fun r X1 => r = none ∧ HG vX X1 ∧ FR (cMd k_X_411) X X1 ∧ X1.1 128 4 = X.1 7 4 ∧ (∀ j, j < 6 → X1.1 130 j = X.1 9 j)) := by
  refine MetX.mk (own := RX0) (by decide +kernel) rfl (nle rfl) (fun E C hQ => ?_)
  refine Wx_lv (lv' := [(0, .ref 128), (1, .ref 7)]) rfl ?_
  refine x_aload_n (i := 0) C dX0_copy_0 rfl rfl ?_
  refine x_aload_n (i := 1) C dX0_copy_1 rfl rfl ?_
  refine x_getI C fkX_X0_18 (nlt rfl) rfl dX0_copy_2 ?_
  refine x_gen (fun v1 ev1 => ?_)
  have qv1 : (0 : Int) ≤ v1 ∧ v1 ≤ (6 : Int) := by
    rw [ev1]
    exact hH.rF (k := 7) (i := 0) rfl rfl
  refine x_putI C pkX_X0_18 (nlt rfl) rfl dX0_copy_5 ?_
  refine x_gX (fun Yy2 eYy2 => ?_)
  have hHy2 : HG vX Yy2 := by
    rw [eYy2]
    exact hg_wF hH (p := (0, 6)) rfl ⟨by omega, by omega⟩
  have hFy2 : FR (cMd k_X_411) X Yy2 := by
    rw [eYy2]
    exact FR.upI hF (rfl)
  replace eYy2 : Yy2 = upI X 128 0 (v1) := eYy2
  refine x_aload_n (i := 0) C dX0_copy_8 rfl rfl ?_
  refine x_aload_n (i := 1) C dX0_copy_9 rfl rfl ?_
  refine x_getI C fkX_X0_22 (nlt rfl) rfl dX0_copy_10 ?_
  refine x_gen (fun v3 ev3 => ?_)
  have qv3 : (0 : Int) ≤ v3 ∧ v3 ≤ (6 : Int) := by
    rw [ev3]
    exact hHy2.rF (k := 7) (i := 1) rfl rfl
  refine x_putI C pkX_X0_22 (nlt rfl) rfl dX0_copy_13 ?_
  refine x_gX (fun Yy4 eYy4 => ?_)
  have hHy4 : HG vX Yy4 := by
    rw [eYy4]
    exact hg_wF hHy2 (p := (0, 6)) rfl ⟨by omega, by omega⟩
  have hFy4 : FR (cMd k_X_411) X Yy4 := by
    rw [eYy4]
    exact FR.upI hFy2 (rfl)
  replace eYy4 : Yy4 = upI Yy2 128 1 (v3) := eYy4
  refine x_aload_n (i := 0) C dX0_copy_16 rfl rfl ?_
  refine x_aload_n (i := 1) C dX0_copy_17 rfl rfl ?_
  refine x_getL C fkX_X0_25 (nlt rfl) rfl dX0_copy_18 ?_
  refine x_genL (fun l5 el5 => ?_)
  refine x_putL C pkX_X0_25 (nlt rfl) rfl dX0_copy_21 ?_
  refine x_gX (fun Yy6 eYy6 => ?_)
  have hHy6 : HG vX Yy6 := by
    rw [eYy6]
    exact hg_wLF hHy4 (p := ((-9223372036854775808), 9223372036854775807)) rfl (l64 _)
  have hFy6 : FR (cMd k_X_411) X Yy6 := by
    rw [eYy6]
    exact FR.upL hFy4 (rfl)
  replace eYy6 : Yy6 = upL Yy4 128 2 (l5) := eYy6
  refine x_aload_n (i := 0) C dX0_copy_24 rfl rfl ?_
  refine x_aload_n (i := 1) C dX0_copy_25 rfl rfl ?_
  refine x_getL C fkX_X0_29 (nlt rfl) rfl dX0_copy_26 ?_
  refine x_genL (fun l7 el7 => ?_)
  refine x_putL C pkX_X0_29 (nlt rfl) rfl dX0_copy_29 ?_
  refine x_gX (fun Yy8 eYy8 => ?_)
  have hHy8 : HG vX Yy8 := by
    rw [eYy8]
    exact hg_wLF hHy6 (p := ((-9223372036854775808), 9223372036854775807)) rfl (l64 _)
  have hFy8 : FR (cMd k_X_411) X Yy8 := by
    rw [eYy8]
    exact FR.upL hFy6 (rfl)
  replace eYy8 : Yy8 = upL Yy6 128 3 (l7) := eYy8
  refine x_aload_n (i := 0) C dX0_copy_32 rfl rfl ?_
  refine x_aload_n (i := 1) C dX0_copy_33 rfl rfl ?_
  refine x_getI C fkX_X0_32 (nlt rfl) rfl dX0_copy_34 ?_
  refine x_gen (fun v9 ev9 => ?_)
  have qv9 : (0 : Int) ≤ v9 ∧ v9 ≤ (6 : Int) := by
    rw [ev9]
    exact hHy8.rF (k := 7) (i := 4) rfl rfl
  refine x_putI C pkX_X0_32 (nlt rfl) rfl dX0_copy_37 ?_
  refine x_gX (fun Yy10 eYy10 => ?_)
  have hHy10 : HG vX Yy10 := by
    rw [eYy10]
    exact hg_wF hHy8 (p := (0, 6)) rfl ⟨by omega, by omega⟩
  have hFy10 : FR (cMd k_X_411) X Yy10 := by
    rw [eYy10]
    exact FR.upI hFy8 (rfl)
  replace eYy10 : Yy10 = upI Yy8 128 4 (v9) := eYy10
  refine x_aload_n (i := 1) C dX0_copy_40 rfl rfl ?_
  refine x_getRs (r := 8) C fkX_X0_9 (nlt rfl) rfl (HG.rR hHy10 (k := 7) (i := 5) rfl rfl) dX0_copy_41 ?_
  refine x_iconst C dX0_copy_44 ?_
  refine x_aload_n (i := 0) C dX0_copy_45 rfl rfl ?_
  refine x_getRs (r := 129) C fkX_X0_9 (nlt rfl) rfl (HG.rR hHy10 (k := 128) (i := 5) rfl rfl) dX0_copy_46 ?_
  refine x_iconst C dX0_copy_49 ?_
  refine x_bipush C dX0_copy_50 (by decide) ?_
  refine x_cpyI C cpX0_35 (nlt rfl) rfl rfl (nlt rfl) rfl rfl rfl (by omega) (by omega) (by omega) (by omega) (by omega) (nle rfl) (nle rfl) (nle rfl) (nle rfl) dX0_copy_52 ?_
  refine x_gX (fun Yy11 eYy11 => ?_)
  have hHy11 : HG vX Yy11 := by
    rw [eYy11]
    exact HG.cpI hHy10 (nlt rfl) rfl (nle rfl) (by decide +kernel)
  have hFy11 : FR (cMd k_X_411) X Yy11 := by
    rw [eYy11]
    exact FR.cpI hFy10 (fun _ => rfl)
  refine x_aload_n (i := 1) C dX0_copy_55 rfl rfl ?_
  refine x_getRs (r := 9) C fkX_X0_15 (nlt rfl) rfl (HG.rR hHy11 (k := 7) (i := 6) rfl rfl) dX0_copy_56 ?_
  refine x_iconst C dX0_copy_59 ?_
  refine x_aload_n (i := 0) C dX0_copy_60 rfl rfl ?_
  refine x_getRs (r := 130) C fkX_X0_15 (nlt rfl) rfl (HG.rR hHy11 (k := 128) (i := 6) rfl rfl) dX0_copy_61 ?_
  refine x_iconst C dX0_copy_64 ?_
  refine x_bipush C dX0_copy_65 (by decide) ?_
  refine x_cpyI C cpX0_35 (nlt rfl) rfl rfl (nlt rfl) rfl rfl rfl (by omega) (by omega) (by omega) (by omega) (by omega) (nle rfl) (nle rfl) (nle rfl) (nle rfl) dX0_copy_67 ?_
  refine x_gX (fun Yy12 eYy12 => ?_)
  have hHy12 : HG vX Yy12 := by
    rw [eYy12]
    exact HG.cpI hHy11 (nlt rfl) rfl (nle rfl) (by decide +kernel)
  have hFy12 : FR (cMd k_X_411) X Yy12 := by
    rw [eYy12]
    exact FR.cpI hFy11 (fun _ => rfl)
  exact x_vret C hQ dX0_copy_70 (⟨rfl, hHy12, hFy12, by rw [eYy12, cpI_o1 (by decide), eYy11, cpI_o1 (by decide), eYy10, upI_at, ev9, (hFy8 7 4 rfl).1], fun j hj => by rw [eYy12, cpI_r hj, eYy11, cpI_o1 (by decide), (hFy10 9 j rfl).1]⟩)
set_option maxRecDepth 10000 in
theorem t_X_411 {D : va_G} {ad : Nat → Nat} {cA : Nat → ClassId} : CTR mtX vX gX (wX D ad cA) k_X_411 := by
  intro g X hpre
  obtain ⟨h00, hei, hel, hdl, hH, hE⟩ := hpre
  have h0 : (0 : Int) ≤ g.1 0 ∧ g.1 0 ≤ (0 : Int) := hei 0 _ rfl
  refine MetX.imp (fun r X1 hp => ?_) (xf_copy128_7 (X := X) hH FR.rf)
  obtain ⟨rfl, hH1, hF1, hm, hf⟩ := hp
  have hE1 : MENOK X1 := by
    intro q hq j hj
    by_cases hc : q = (128, 130)
    · subst hc
      have m6 : (0 : Int) ≤ X.1 7 4 ∧ X.1 7 4 ≤ (6 : Int) := hH.rF (k := 7) (i := 4) (p := (0, 6)) rfl rfl
      have hj2 : (j : Int) < X.1 7 4 := by rw [← hm]; exact hj
      show 0 ≤ X1.1 130 j ∧ X1.1 130 j ≤ 35
      rw [hf j (by omega)]
      exact hE (7, 9) (by decide) j hj2
    · have no : ∀ p ∈ tb8, p ≠ (128, 130) → ∀ i, inM (cMd k_X_411) p.1 i = false ∧ inM (cMd k_X_411) p.2 i = false := noM (by decide +kernel)
      rw [(hF1 q.2 j (no q hq hc j).2).1]
      rw [(hF1 q.1 _ (no q hq hc _).1).1] at hj
      exact hE q hq j hj
  exact (altM_mk 0 [] rfl (ei_cons ⟨by show (0 : Int) ≤ g.1 0; omega, by show g.1 0 ≤ (0 : Int); omega⟩ ei_nil) el_nil (by rfl) dl_nil gd_nil hH1 hE1 hF1)
set_option maxHeartbeats 4000000 in
set_option maxRecDepth 100000 in
theorem xf_copy131_10 {D : va_G} {ad : Nat → Nat} {cA : Nat → ClassId} {X : XT} (hH : HG vX X) (hF : FR (cMd k_X_412) X X) : MetX (wX D ad cA) yX0_copy cX0_copy 2 none 1 60 [.ref 131, .ref 10] X (fun r X1 => r = none ∧ HG vX X1 ∧ FR (cMd k_X_412) X X1 ∧ X1.1 131 4 = X.1 10 4 ∧ (∀ j, j < 6 → X1.1 133 j = X.1 12 j)) := by
  refine MetX.mk (own := RX0) (by decide +kernel) rfl (nle rfl) (fun E C hQ => ?_)
  refine Wx_lv (lv' := [(0, .ref 131), (1, .ref 10)]) rfl ?_
  refine x_aload_n (i := 0) C dX0_copy_0 rfl rfl ?_
  refine x_aload_n (i := 1) C dX0_copy_1 rfl rfl ?_
  refine x_getI C fkX_X0_18 (nlt rfl) rfl dX0_copy_2 ?_
  refine x_gen (fun v1 ev1 => ?_)
  have qv1 : (0 : Int) ≤ v1 ∧ v1 ≤ (6 : Int) := by
    rw [ev1]
    exact hH.rF (k := 10) (i := 0) rfl rfl
  refine x_putI C pkX_X0_18 (nlt rfl) rfl dX0_copy_5 ?_
  refine x_gX (fun Yy2 eYy2 => ?_)
  have hHy2 : HG vX Yy2 := by
    rw [eYy2]
    exact hg_wF hH (p := (0, 6)) rfl ⟨by omega, by omega⟩
  have hFy2 : FR (cMd k_X_412) X Yy2 := by
    rw [eYy2]
    exact FR.upI hF (rfl)
  replace eYy2 : Yy2 = upI X 131 0 (v1) := eYy2
  refine x_aload_n (i := 0) C dX0_copy_8 rfl rfl ?_
  refine x_aload_n (i := 1) C dX0_copy_9 rfl rfl ?_
  refine x_getI C fkX_X0_22 (nlt rfl) rfl dX0_copy_10 ?_
  refine x_gen (fun v3 ev3 => ?_)
  have qv3 : (0 : Int) ≤ v3 ∧ v3 ≤ (6 : Int) := by
    rw [ev3]
    exact hHy2.rF (k := 10) (i := 1) rfl rfl
  refine x_putI C pkX_X0_22 (nlt rfl) rfl dX0_copy_13 ?_
  refine x_gX (fun Yy4 eYy4 => ?_)
  have hHy4 : HG vX Yy4 := by
    rw [eYy4]
    exact hg_wF hHy2 (p := (0, 6)) rfl ⟨by omega, by omega⟩
  have hFy4 : FR (cMd k_X_412) X Yy4 := by
    rw [eYy4]
    exact FR.upI hFy2 (rfl)
  replace eYy4 : Yy4 = upI Yy2 131 1 (v3) := eYy4
  refine x_aload_n (i := 0) C dX0_copy_16 rfl rfl ?_
  refine x_aload_n (i := 1) C dX0_copy_17 rfl rfl ?_
  refine x_getL C fkX_X0_25 (nlt rfl) rfl dX0_copy_18 ?_
  refine x_genL (fun l5 el5 => ?_)
  refine x_putL C pkX_X0_25 (nlt rfl) rfl dX0_copy_21 ?_
  refine x_gX (fun Yy6 eYy6 => ?_)
  have hHy6 : HG vX Yy6 := by
    rw [eYy6]
    exact hg_wLF hHy4 (p := ((-9223372036854775808), 9223372036854775807)) rfl (l64 _)
  have hFy6 : FR (cMd k_X_412) X Yy6 := by
    rw [eYy6]
    exact FR.upL hFy4 (rfl)
  replace eYy6 : Yy6 = upL Yy4 131 2 (l5) := eYy6
  refine x_aload_n (i := 0) C dX0_copy_24 rfl rfl ?_
  refine x_aload_n (i := 1) C dX0_copy_25 rfl rfl ?_
  refine x_getL C fkX_X0_29 (nlt rfl) rfl dX0_copy_26 ?_
  refine x_genL (fun l7 el7 => ?_)
  refine x_putL C pkX_X0_29 (nlt rfl) rfl dX0_copy_29 ?_
  refine x_gX (fun Yy8 eYy8 => ?_)
  have hHy8 : HG vX Yy8 := by
    rw [eYy8]
    exact hg_wLF hHy6 (p := ((-9223372036854775808), 9223372036854775807)) rfl (l64 _)
  have hFy8 : FR (cMd k_X_412) X Yy8 := by
    rw [eYy8]
    exact FR.upL hFy6 (rfl)
  replace eYy8 : Yy8 = upL Yy6 131 3 (l7) := eYy8
  refine x_aload_n (i := 0) C dX0_copy_32 rfl rfl ?_
  refine x_aload_n (i := 1) C dX0_copy_33 rfl rfl ?_
  refine x_getI C fkX_X0_32 (nlt rfl) rfl dX0_copy_34 ?_
  refine x_gen (fun v9 ev9 => ?_)
  have qv9 : (0 : Int) ≤ v9 ∧ v9 ≤ (6 : Int) := by
    rw [ev9]
    exact hHy8.rF (k := 10) (i := 4) rfl rfl
  refine x_putI C pkX_X0_32 (nlt rfl) rfl dX0_copy_37 ?_
  refine x_gX (fun Yy10 eYy10 => ?_)
  have hHy10 : HG vX Yy10 := by
    rw [eYy10]
    exact hg_wF hHy8 (p := (0, 6)) rfl ⟨by omega, by omega⟩
  have hFy10 : FR (cMd k_X_412) X Yy10 := by
    rw [eYy10]
    exact FR.upI hFy8 (rfl)
  replace eYy10 : Yy10 = upI Yy8 131 4 (v9) := eYy10
  refine x_aload_n (i := 1) C dX0_copy_40 rfl rfl ?_
  refine x_getRs (r := 11) C fkX_X0_9 (nlt rfl) rfl (HG.rR hHy10 (k := 10) (i := 5) rfl rfl) dX0_copy_41 ?_
  refine x_iconst C dX0_copy_44 ?_
  refine x_aload_n (i := 0) C dX0_copy_45 rfl rfl ?_
  refine x_getRs (r := 132) C fkX_X0_9 (nlt rfl) rfl (HG.rR hHy10 (k := 131) (i := 5) rfl rfl) dX0_copy_46 ?_
  refine x_iconst C dX0_copy_49 ?_
  refine x_bipush C dX0_copy_50 (by decide) ?_
  refine x_cpyI C cpX0_35 (nlt rfl) rfl rfl (nlt rfl) rfl rfl rfl (by omega) (by omega) (by omega) (by omega) (by omega) (nle rfl) (nle rfl) (nle rfl) (nle rfl) dX0_copy_52 ?_
  refine x_gX (fun Yy11 eYy11 => ?_)
  have hHy11 : HG vX Yy11 := by
    rw [eYy11]
    exact HG.cpI hHy10 (nlt rfl) rfl (nle rfl) (by decide +kernel)
  have hFy11 : FR (cMd k_X_412) X Yy11 := by
    rw [eYy11]
    exact FR.cpI hFy10 (fun _ => rfl)
  refine x_aload_n (i := 1) C dX0_copy_55 rfl rfl ?_
  refine x_getRs (r := 12) C fkX_X0_15 (nlt rfl) rfl (HG.rR hHy11 (k := 10) (i := 6) rfl rfl) dX0_copy_56 ?_
  refine x_iconst C dX0_copy_59 ?_
  refine x_aload_n (i := 0) C dX0_copy_60 rfl rfl ?_
  refine x_getRs (r := 133) C fkX_X0_15 (nlt rfl) rfl (HG.rR hHy11 (k := 131) (i := 6) rfl rfl) dX0_copy_61 ?_
  refine x_iconst C dX0_copy_64 ?_
  refine x_bipush C dX0_copy_65 (by decide) ?_
  refine x_cpyI C cpX0_35 (nlt rfl) rfl rfl (nlt rfl) rfl rfl rfl (by omega) (by omega) (by omega) (by omega) (by omega) (nle rfl) (nle rfl) (nle rfl) (nle rfl) dX0_copy_67 ?_
  refine x_gX (fun Yy12 eYy12 => ?_)
  have hHy12 : HG vX Yy12 := by
    rw [eYy12]
    exact HG.cpI hHy11 (nlt rfl) rfl (nle rfl) (by decide +kernel)
  have hFy12 : FR (cMd k_X_412) X Yy12 := by
    rw [eYy12]
    exact FR.cpI hFy11 (fun _ => rfl)
  exact x_vret C hQ dX0_copy_70 (⟨rfl, hHy12, hFy12, by rw [eYy12, cpI_o1 (by decide), eYy11, cpI_o1 (by decide), eYy10, upI_at, ev9, (hFy8 10 4 rfl).1], fun j hj => by rw [eYy12, cpI_r hj, eYy11, cpI_o1 (by decide), (hFy10 12 j rfl).1]⟩)
set_option maxRecDepth 10000 in
theorem t_X_412 {D : va_G} {ad : Nat → Nat} {cA : Nat → ClassId} : CTR mtX vX gX (wX D ad cA) k_X_412 := by
  intro g X hpre
  obtain ⟨h00, hei, hel, hdl, hH, hE⟩ := hpre
  have h0 : (0 : Int) ≤ g.1 0 ∧ g.1 0 ≤ (0 : Int) := hei 0 _ rfl
  refine MetX.imp (fun r X1 hp => ?_) (xf_copy131_10 (X := X) hH FR.rf)
  obtain ⟨rfl, hH1, hF1, hm, hf⟩ := hp
  have hE1 : MENOK X1 := by
    intro q hq j hj
    by_cases hc : q = (131, 133)
    · subst hc
      have m6 : (0 : Int) ≤ X.1 10 4 ∧ X.1 10 4 ≤ (6 : Int) := hH.rF (k := 10) (i := 4) (p := (0, 6)) rfl rfl
      have hj2 : (j : Int) < X.1 10 4 := by rw [← hm]; exact hj
      show 0 ≤ X1.1 133 j ∧ X1.1 133 j ≤ 35
      rw [hf j (by omega)]
      exact hE (10, 12) (by decide) j hj2
    · have no : ∀ p ∈ tb8, p ≠ (131, 133) → ∀ i, inM (cMd k_X_412) p.1 i = false ∧ inM (cMd k_X_412) p.2 i = false := noM (by decide +kernel)
      rw [(hF1 q.2 j (no q hq hc j).2).1]
      rw [(hF1 q.1 _ (no q hq hc _).1).1] at hj
      exact hE q hq j hj
  exact (altM_mk 0 [] rfl (ei_cons ⟨by show (0 : Int) ≤ g.1 0; omega, by show g.1 0 ≤ (0 : Int); omega⟩ ei_nil) el_nil (by rfl) dl_nil gd_nil hH1 hE1 hF1)
set_option maxHeartbeats 4000000 in
set_option maxRecDepth 100000 in
theorem xf_copy110_7 {D : va_G} {ad : Nat → Nat} {cA : Nat → ClassId} {X : XT} (hH : HG vX X) (hF : FR (cMd k_X_416) X X) : MetX (wX D ad cA) yX0_copy cX0_copy 2 none 1 60 [.ref 110, .ref 7] X (fun r X1 => r = none ∧ HG vX X1 ∧ FR (cMd k_X_416) X X1 ∧ X1.1 110 4 = X.1 7 4 ∧ (∀ j, j < 6 → X1.1 112 j = X.1 9 j)) := by
  refine MetX.mk (own := RX0) (by decide +kernel) rfl (nle rfl) (fun E C hQ => ?_)
  refine Wx_lv (lv' := [(0, .ref 110), (1, .ref 7)]) rfl ?_
  refine x_aload_n (i := 0) C dX0_copy_0 rfl rfl ?_
  refine x_aload_n (i := 1) C dX0_copy_1 rfl rfl ?_
  refine x_getI C fkX_X0_18 (nlt rfl) rfl dX0_copy_2 ?_
  refine x_gen (fun v1 ev1 => ?_)
  have qv1 : (0 : Int) ≤ v1 ∧ v1 ≤ (6 : Int) := by
    rw [ev1]
    exact hH.rF (k := 7) (i := 0) rfl rfl
  refine x_putI C pkX_X0_18 (nlt rfl) rfl dX0_copy_5 ?_
  refine x_gX (fun Yy2 eYy2 => ?_)
  have hHy2 : HG vX Yy2 := by
    rw [eYy2]
    exact hg_wF hH (p := (0, 6)) rfl ⟨by omega, by omega⟩
  have hFy2 : FR (cMd k_X_416) X Yy2 := by
    rw [eYy2]
    exact FR.upI hF (rfl)
  replace eYy2 : Yy2 = upI X 110 0 (v1) := eYy2
  refine x_aload_n (i := 0) C dX0_copy_8 rfl rfl ?_
  refine x_aload_n (i := 1) C dX0_copy_9 rfl rfl ?_
  refine x_getI C fkX_X0_22 (nlt rfl) rfl dX0_copy_10 ?_
  refine x_gen (fun v3 ev3 => ?_)
  have qv3 : (0 : Int) ≤ v3 ∧ v3 ≤ (6 : Int) := by
    rw [ev3]
    exact hHy2.rF (k := 7) (i := 1) rfl rfl
  refine x_putI C pkX_X0_22 (nlt rfl) rfl dX0_copy_13 ?_
  refine x_gX (fun Yy4 eYy4 => ?_)
  have hHy4 : HG vX Yy4 := by
    rw [eYy4]
    exact hg_wF hHy2 (p := (0, 6)) rfl ⟨by omega, by omega⟩
  have hFy4 : FR (cMd k_X_416) X Yy4 := by
    rw [eYy4]
    exact FR.upI hFy2 (rfl)
  replace eYy4 : Yy4 = upI Yy2 110 1 (v3) := eYy4
  refine x_aload_n (i := 0) C dX0_copy_16 rfl rfl ?_
  refine x_aload_n (i := 1) C dX0_copy_17 rfl rfl ?_
  refine x_getL C fkX_X0_25 (nlt rfl) rfl dX0_copy_18 ?_
  refine x_genL (fun l5 el5 => ?_)
  refine x_putL C pkX_X0_25 (nlt rfl) rfl dX0_copy_21 ?_
  refine x_gX (fun Yy6 eYy6 => ?_)
  have hHy6 : HG vX Yy6 := by
    rw [eYy6]
    exact hg_wLF hHy4 (p := ((-9223372036854775808), 9223372036854775807)) rfl (l64 _)
  have hFy6 : FR (cMd k_X_416) X Yy6 := by
    rw [eYy6]
    exact FR.upL hFy4 (rfl)
  replace eYy6 : Yy6 = upL Yy4 110 2 (l5) := eYy6
  refine x_aload_n (i := 0) C dX0_copy_24 rfl rfl ?_
  refine x_aload_n (i := 1) C dX0_copy_25 rfl rfl ?_
  refine x_getL C fkX_X0_29 (nlt rfl) rfl dX0_copy_26 ?_
  refine x_genL (fun l7 el7 => ?_)
  refine x_putL C pkX_X0_29 (nlt rfl) rfl dX0_copy_29 ?_
  refine x_gX (fun Yy8 eYy8 => ?_)
  have hHy8 : HG vX Yy8 := by
    rw [eYy8]
    exact hg_wLF hHy6 (p := ((-9223372036854775808), 9223372036854775807)) rfl (l64 _)
  have hFy8 : FR (cMd k_X_416) X Yy8 := by
    rw [eYy8]
    exact FR.upL hFy6 (rfl)
  replace eYy8 : Yy8 = upL Yy6 110 3 (l7) := eYy8
  refine x_aload_n (i := 0) C dX0_copy_32 rfl rfl ?_
  refine x_aload_n (i := 1) C dX0_copy_33 rfl rfl ?_
  refine x_getI C fkX_X0_32 (nlt rfl) rfl dX0_copy_34 ?_
  refine x_gen (fun v9 ev9 => ?_)
  have qv9 : (0 : Int) ≤ v9 ∧ v9 ≤ (6 : Int) := by
    rw [ev9]
    exact hHy8.rF (k := 7) (i := 4) rfl rfl
  refine x_putI C pkX_X0_32 (nlt rfl) rfl dX0_copy_37 ?_
  refine x_gX (fun Yy10 eYy10 => ?_)
  have hHy10 : HG vX Yy10 := by
    rw [eYy10]
    exact hg_wF hHy8 (p := (0, 6)) rfl ⟨by omega, by omega⟩
  have hFy10 : FR (cMd k_X_416) X Yy10 := by
    rw [eYy10]
    exact FR.upI hFy8 (rfl)
  replace eYy10 : Yy10 = upI Yy8 110 4 (v9) := eYy10
  refine x_aload_n (i := 1) C dX0_copy_40 rfl rfl ?_
  refine x_getRs (r := 8) C fkX_X0_9 (nlt rfl) rfl (HG.rR hHy10 (k := 7) (i := 5) rfl rfl) dX0_copy_41 ?_
  refine x_iconst C dX0_copy_44 ?_
  refine x_aload_n (i := 0) C dX0_copy_45 rfl rfl ?_
  refine x_getRs (r := 111) C fkX_X0_9 (nlt rfl) rfl (HG.rR hHy10 (k := 110) (i := 5) rfl rfl) dX0_copy_46 ?_
  refine x_iconst C dX0_copy_49 ?_
  refine x_bipush C dX0_copy_50 (by decide) ?_
  refine x_cpyI C cpX0_35 (nlt rfl) rfl rfl (nlt rfl) rfl rfl rfl (by omega) (by omega) (by omega) (by omega) (by omega) (nle rfl) (nle rfl) (nle rfl) (nle rfl) dX0_copy_52 ?_
  refine x_gX (fun Yy11 eYy11 => ?_)
  have hHy11 : HG vX Yy11 := by
    rw [eYy11]
    exact HG.cpI hHy10 (nlt rfl) rfl (nle rfl) (by decide +kernel)
  have hFy11 : FR (cMd k_X_416) X Yy11 := by
    rw [eYy11]
    exact FR.cpI hFy10 (fun _ => rfl)
  refine x_aload_n (i := 1) C dX0_copy_55 rfl rfl ?_
  refine x_getRs (r := 9) C fkX_X0_15 (nlt rfl) rfl (HG.rR hHy11 (k := 7) (i := 6) rfl rfl) dX0_copy_56 ?_
  refine x_iconst C dX0_copy_59 ?_
  refine x_aload_n (i := 0) C dX0_copy_60 rfl rfl ?_
  refine x_getRs (r := 112) C fkX_X0_15 (nlt rfl) rfl (HG.rR hHy11 (k := 110) (i := 6) rfl rfl) dX0_copy_61 ?_
  refine x_iconst C dX0_copy_64 ?_
  refine x_bipush C dX0_copy_65 (by decide) ?_
  refine x_cpyI C cpX0_35 (nlt rfl) rfl rfl (nlt rfl) rfl rfl rfl (by omega) (by omega) (by omega) (by omega) (by omega) (nle rfl) (nle rfl) (nle rfl) (nle rfl) dX0_copy_67 ?_
  refine x_gX (fun Yy12 eYy12 => ?_)
  have hHy12 : HG vX Yy12 := by
    rw [eYy12]
    exact HG.cpI hHy11 (nlt rfl) rfl (nle rfl) (by decide +kernel)
  have hFy12 : FR (cMd k_X_416) X Yy12 := by
    rw [eYy12]
    exact FR.cpI hFy11 (fun _ => rfl)
  exact x_vret C hQ dX0_copy_70 (⟨rfl, hHy12, hFy12, by rw [eYy12, cpI_o1 (by decide), eYy11, cpI_o1 (by decide), eYy10, upI_at, ev9, (hFy8 7 4 rfl).1], fun j hj => by rw [eYy12, cpI_r hj, eYy11, cpI_o1 (by decide), (hFy10 9 j rfl).1]⟩)
set_option maxRecDepth 10000 in
theorem t_X_416 {D : va_G} {ad : Nat → Nat} {cA : Nat → ClassId} : CTR mtX vX gX (wX D ad cA) k_X_416 := by
  intro g X hpre
  obtain ⟨h00, hei, hel, hdl, hH, hE⟩ := hpre
  have h0 : (0 : Int) ≤ g.1 0 ∧ g.1 0 ≤ (0 : Int) := hei 0 _ rfl
  refine MetX.imp (fun r X1 hp => ?_) (xf_copy110_7 (X := X) hH FR.rf)
  obtain ⟨rfl, hH1, hF1, hm, hf⟩ := hp
  have hE1 : MENOK X1 := by
    intro q hq j hj
    by_cases hc : q = (110, 112)
    · subst hc
      have m6 : (0 : Int) ≤ X.1 7 4 ∧ X.1 7 4 ≤ (6 : Int) := hH.rF (k := 7) (i := 4) (p := (0, 6)) rfl rfl
      have hj2 : (j : Int) < X.1 7 4 := by rw [← hm]; exact hj
      show 0 ≤ X1.1 112 j ∧ X1.1 112 j ≤ 35
      rw [hf j (by omega)]
      exact hE (7, 9) (by decide) j hj2
    · have no : ∀ p ∈ tb8, p ≠ (110, 112) → ∀ i, inM (cMd k_X_416) p.1 i = false ∧ inM (cMd k_X_416) p.2 i = false := noM (by decide +kernel)
      rw [(hF1 q.2 j (no q hq hc j).2).1]
      rw [(hF1 q.1 _ (no q hq hc _).1).1] at hj
      exact hE q hq j hj
  exact (altM_mk 0 [] rfl (ei_cons ⟨by show (0 : Int) ≤ g.1 0; omega, by show g.1 0 ≤ (0 : Int); omega⟩ ei_nil) el_nil (by rfl) dl_nil gd_nil hH1 hE1 hF1)
set_option maxHeartbeats 4000000 in
set_option maxRecDepth 100000 in
theorem xf_copy113_10 {D : va_G} {ad : Nat → Nat} {cA : Nat → ClassId} {X : XT} (hH : HG vX X) (hF : FR (cMd k_X_417) X X) : MetX (wX D ad cA) yX0_copy cX0_copy 2 none 1 60 [.ref 113, .ref 10] X (fun r X1 => r = none ∧ HG vX X1 ∧ FR (cMd k_X_417) X X1 ∧ X1.1 113 4 = X.1 10 4 ∧ (∀ j, j < 6 → X1.1 115 j = X.1 12 j)) := by
  refine MetX.mk (own := RX0) (by decide +kernel) rfl (nle rfl) (fun E C hQ => ?_)
  refine Wx_lv (lv' := [(0, .ref 113), (1, .ref 10)]) rfl ?_
  refine x_aload_n (i := 0) C dX0_copy_0 rfl rfl ?_
  refine x_aload_n (i := 1) C dX0_copy_1 rfl rfl ?_
  refine x_getI C fkX_X0_18 (nlt rfl) rfl dX0_copy_2 ?_
  refine x_gen (fun v1 ev1 => ?_)
  have qv1 : (0 : Int) ≤ v1 ∧ v1 ≤ (6 : Int) := by
    rw [ev1]
    exact hH.rF (k := 10) (i := 0) rfl rfl
  refine x_putI C pkX_X0_18 (nlt rfl) rfl dX0_copy_5 ?_
  refine x_gX (fun Yy2 eYy2 => ?_)
  have hHy2 : HG vX Yy2 := by
    rw [eYy2]
    exact hg_wF hH (p := (0, 6)) rfl ⟨by omega, by omega⟩
  have hFy2 : FR (cMd k_X_417) X Yy2 := by
    rw [eYy2]
    exact FR.upI hF (rfl)
  replace eYy2 : Yy2 = upI X 113 0 (v1) := eYy2
  refine x_aload_n (i := 0) C dX0_copy_8 rfl rfl ?_
  refine x_aload_n (i := 1) C dX0_copy_9 rfl rfl ?_
  refine x_getI C fkX_X0_22 (nlt rfl) rfl dX0_copy_10 ?_
  refine x_gen (fun v3 ev3 => ?_)
  have qv3 : (0 : Int) ≤ v3 ∧ v3 ≤ (6 : Int) := by
    rw [ev3]
    exact hHy2.rF (k := 10) (i := 1) rfl rfl
  refine x_putI C pkX_X0_22 (nlt rfl) rfl dX0_copy_13 ?_
  refine x_gX (fun Yy4 eYy4 => ?_)
  have hHy4 : HG vX Yy4 := by
    rw [eYy4]
    exact hg_wF hHy2 (p := (0, 6)) rfl ⟨by omega, by omega⟩
  have hFy4 : FR (cMd k_X_417) X Yy4 := by
    rw [eYy4]
    exact FR.upI hFy2 (rfl)
  replace eYy4 : Yy4 = upI Yy2 113 1 (v3) := eYy4
  refine x_aload_n (i := 0) C dX0_copy_16 rfl rfl ?_
  refine x_aload_n (i := 1) C dX0_copy_17 rfl rfl ?_
  refine x_getL C fkX_X0_25 (nlt rfl) rfl dX0_copy_18 ?_
  refine x_genL (fun l5 el5 => ?_)
  refine x_putL C pkX_X0_25 (nlt rfl) rfl dX0_copy_21 ?_
  refine x_gX (fun Yy6 eYy6 => ?_)
  have hHy6 : HG vX Yy6 := by
    rw [eYy6]
    exact hg_wLF hHy4 (p := ((-9223372036854775808), 9223372036854775807)) rfl (l64 _)
  have hFy6 : FR (cMd k_X_417) X Yy6 := by
    rw [eYy6]
    exact FR.upL hFy4 (rfl)
  replace eYy6 : Yy6 = upL Yy4 113 2 (l5) := eYy6
  refine x_aload_n (i := 0) C dX0_copy_24 rfl rfl ?_
  refine x_aload_n (i := 1) C dX0_copy_25 rfl rfl ?_
  refine x_getL C fkX_X0_29 (nlt rfl) rfl dX0_copy_26 ?_
  refine x_genL (fun l7 el7 => ?_)
  refine x_putL C pkX_X0_29 (nlt rfl) rfl dX0_copy_29 ?_
  refine x_gX (fun Yy8 eYy8 => ?_)
  have hHy8 : HG vX Yy8 := by
    rw [eYy8]
    exact hg_wLF hHy6 (p := ((-9223372036854775808), 9223372036854775807)) rfl (l64 _)
  have hFy8 : FR (cMd k_X_417) X Yy8 := by
    rw [eYy8]
    exact FR.upL hFy6 (rfl)
  replace eYy8 : Yy8 = upL Yy6 113 3 (l7) := eYy8
  refine x_aload_n (i := 0) C dX0_copy_32 rfl rfl ?_
  refine x_aload_n (i := 1) C dX0_copy_33 rfl rfl ?_
  refine x_getI C fkX_X0_32 (nlt rfl) rfl dX0_copy_34 ?_
  refine x_gen (fun v9 ev9 => ?_)
  have qv9 : (0 : Int) ≤ v9 ∧ v9 ≤ (6 : Int) := by
    rw [ev9]
    exact hHy8.rF (k := 10) (i := 4) rfl rfl
  refine x_putI C pkX_X0_32 (nlt rfl) rfl dX0_copy_37 ?_
  refine x_gX (fun Yy10 eYy10 => ?_)
  have hHy10 : HG vX Yy10 := by
    rw [eYy10]
    exact hg_wF hHy8 (p := (0, 6)) rfl ⟨by omega, by omega⟩
  have hFy10 : FR (cMd k_X_417) X Yy10 := by
    rw [eYy10]
    exact FR.upI hFy8 (rfl)
  replace eYy10 : Yy10 = upI Yy8 113 4 (v9) := eYy10
  refine x_aload_n (i := 1) C dX0_copy_40 rfl rfl ?_
  refine x_getRs (r := 11) C fkX_X0_9 (nlt rfl) rfl (HG.rR hHy10 (k := 10) (i := 5) rfl rfl) dX0_copy_41 ?_
  refine x_iconst C dX0_copy_44 ?_
  refine x_aload_n (i := 0) C dX0_copy_45 rfl rfl ?_
  refine x_getRs (r := 114) C fkX_X0_9 (nlt rfl) rfl (HG.rR hHy10 (k := 113) (i := 5) rfl rfl) dX0_copy_46 ?_
  refine x_iconst C dX0_copy_49 ?_
  refine x_bipush C dX0_copy_50 (by decide) ?_
  refine x_cpyI C cpX0_35 (nlt rfl) rfl rfl (nlt rfl) rfl rfl rfl (by omega) (by omega) (by omega) (by omega) (by omega) (nle rfl) (nle rfl) (nle rfl) (nle rfl) dX0_copy_52 ?_
  refine x_gX (fun Yy11 eYy11 => ?_)
  have hHy11 : HG vX Yy11 := by
    rw [eYy11]
    exact HG.cpI hHy10 (nlt rfl) rfl (nle rfl) (by decide +kernel)
  have hFy11 : FR (cMd k_X_417) X Yy11 := by
    rw [eYy11]
    exact FR.cpI hFy10 (fun _ => rfl)
  refine x_aload_n (i := 1) C dX0_copy_55 rfl rfl ?_
  refine x_getRs (r := 12) C fkX_X0_15 (nlt rfl) rfl (HG.rR hHy11 (k := 10) (i := 6) rfl rfl) dX0_copy_56 ?_
  refine x_iconst C dX0_copy_59 ?_
  refine x_aload_n (i := 0) C dX0_copy_60 rfl rfl ?_
  refine x_getRs (r := 115) C fkX_X0_15 (nlt rfl) rfl (HG.rR hHy11 (k := 113) (i := 6) rfl rfl) dX0_copy_61 ?_
  refine x_iconst C dX0_copy_64 ?_
  refine x_bipush C dX0_copy_65 (by decide) ?_
  refine x_cpyI C cpX0_35 (nlt rfl) rfl rfl (nlt rfl) rfl rfl rfl (by omega) (by omega) (by omega) (by omega) (by omega) (nle rfl) (nle rfl) (nle rfl) (nle rfl) dX0_copy_67 ?_
  refine x_gX (fun Yy12 eYy12 => ?_)
  have hHy12 : HG vX Yy12 := by
    rw [eYy12]
    exact HG.cpI hHy11 (nlt rfl) rfl (nle rfl) (by decide +kernel)
  have hFy12 : FR (cMd k_X_417) X Yy12 := by
    rw [eYy12]
    exact FR.cpI hFy11 (fun _ => rfl)
  exact x_vret C hQ dX0_copy_70 (⟨rfl, hHy12, hFy12, by rw [eYy12, cpI_o1 (by decide), eYy11, cpI_o1 (by decide), eYy10, upI_at, ev9, (hFy8 10 4 rfl).1], fun j hj => by rw [eYy12, cpI_r hj, eYy11, cpI_o1 (by decide), (hFy10 12 j rfl).1]⟩)
set_option maxRecDepth 10000 in
theorem t_X_417 {D : va_G} {ad : Nat → Nat} {cA : Nat → ClassId} : CTR mtX vX gX (wX D ad cA) k_X_417 := by
  intro g X hpre
  obtain ⟨h00, hei, hel, hdl, hH, hE⟩ := hpre
  have h0 : (0 : Int) ≤ g.1 0 ∧ g.1 0 ≤ (0 : Int) := hei 0 _ rfl
  refine MetX.imp (fun r X1 hp => ?_) (xf_copy113_10 (X := X) hH FR.rf)
  obtain ⟨rfl, hH1, hF1, hm, hf⟩ := hp
  have hE1 : MENOK X1 := by
    intro q hq j hj
    by_cases hc : q = (113, 115)
    · subst hc
      have m6 : (0 : Int) ≤ X.1 10 4 ∧ X.1 10 4 ≤ (6 : Int) := hH.rF (k := 10) (i := 4) (p := (0, 6)) rfl rfl
      have hj2 : (j : Int) < X.1 10 4 := by rw [← hm]; exact hj
      show 0 ≤ X1.1 115 j ∧ X1.1 115 j ≤ 35
      rw [hf j (by omega)]
      exact hE (10, 12) (by decide) j hj2
    · have no : ∀ p ∈ tb8, p ≠ (113, 115) → ∀ i, inM (cMd k_X_417) p.1 i = false ∧ inM (cMd k_X_417) p.2 i = false := noM (by decide +kernel)
      rw [(hF1 q.2 j (no q hq hc j).2).1]
      rw [(hF1 q.1 _ (no q hq hc _).1).1] at hj
      exact hE q hq j hj
  exact (altM_mk 0 [] rfl (ei_cons ⟨by show (0 : Int) ≤ g.1 0; omega, by show g.1 0 ≤ (0 : Int); omega⟩ ei_nil) el_nil (by rfl) dl_nil gd_nil hH1 hE1 hF1)
set_option maxHeartbeats 4000000 in
set_option maxRecDepth 100000 in
theorem xf_copy7_146 {D : va_G} {ad : Nat → Nat} {cA : Nat → ClassId} {X : XT} (hH : HG vX X) (hF : FR (cMd k_X_422) X X) : MetX (wX D ad cA) yX0_copy cX0_copy 2 none 1 60 [.ref 7, .ref 146] X (fun r X1 => r = none ∧ HG vX X1 ∧ FR (cMd k_X_422) X X1 ∧ X1.1 7 4 = X.1 146 4 ∧ (∀ j, j < 6 → X1.1 9 j = X.1 148 j)) := by
  refine MetX.mk (own := RX0) (by decide +kernel) rfl (nle rfl) (fun E C hQ => ?_)
  refine Wx_lv (lv' := [(0, .ref 7), (1, .ref 146)]) rfl ?_
  refine x_aload_n (i := 0) C dX0_copy_0 rfl rfl ?_
  refine x_aload_n (i := 1) C dX0_copy_1 rfl rfl ?_
  refine x_getI C fkX_X0_18 (nlt rfl) rfl dX0_copy_2 ?_
  refine x_gen (fun v1 ev1 => ?_)
  have qv1 : (0 : Int) ≤ v1 ∧ v1 ≤ (6 : Int) := by
    rw [ev1]
    exact hH.rF (k := 146) (i := 0) rfl rfl
  refine x_putI C pkX_X0_18 (nlt rfl) rfl dX0_copy_5 ?_
  refine x_gX (fun Yy2 eYy2 => ?_)
  have hHy2 : HG vX Yy2 := by
    rw [eYy2]
    exact hg_wF hH (p := (0, 6)) rfl ⟨by omega, by omega⟩
  have hFy2 : FR (cMd k_X_422) X Yy2 := by
    rw [eYy2]
    exact FR.upI hF (rfl)
  replace eYy2 : Yy2 = upI X 7 0 (v1) := eYy2
  refine x_aload_n (i := 0) C dX0_copy_8 rfl rfl ?_
  refine x_aload_n (i := 1) C dX0_copy_9 rfl rfl ?_
  refine x_getI C fkX_X0_22 (nlt rfl) rfl dX0_copy_10 ?_
  refine x_gen (fun v3 ev3 => ?_)
  have qv3 : (0 : Int) ≤ v3 ∧ v3 ≤ (6 : Int) := by
    rw [ev3]
    exact hHy2.rF (k := 146) (i := 1) rfl rfl
  refine x_putI C pkX_X0_22 (nlt rfl) rfl dX0_copy_13 ?_
  refine x_gX (fun Yy4 eYy4 => ?_)
  have hHy4 : HG vX Yy4 := by
    rw [eYy4]
    exact hg_wF hHy2 (p := (0, 6)) rfl ⟨by omega, by omega⟩
  have hFy4 : FR (cMd k_X_422) X Yy4 := by
    rw [eYy4]
    exact FR.upI hFy2 (rfl)
  replace eYy4 : Yy4 = upI Yy2 7 1 (v3) := eYy4
  refine x_aload_n (i := 0) C dX0_copy_16 rfl rfl ?_
  refine x_aload_n (i := 1) C dX0_copy_17 rfl rfl ?_
  refine x_getL C fkX_X0_25 (nlt rfl) rfl dX0_copy_18 ?_
  refine x_genL (fun l5 el5 => ?_)
  refine x_putL C pkX_X0_25 (nlt rfl) rfl dX0_copy_21 ?_
  refine x_gX (fun Yy6 eYy6 => ?_)
  have hHy6 : HG vX Yy6 := by
    rw [eYy6]
    exact hg_wLF hHy4 (p := ((-9223372036854775808), 9223372036854775807)) rfl (l64 _)
  have hFy6 : FR (cMd k_X_422) X Yy6 := by
    rw [eYy6]
    exact FR.upL hFy4 (rfl)
  replace eYy6 : Yy6 = upL Yy4 7 2 (l5) := eYy6
  refine x_aload_n (i := 0) C dX0_copy_24 rfl rfl ?_
  refine x_aload_n (i := 1) C dX0_copy_25 rfl rfl ?_
  refine x_getL C fkX_X0_29 (nlt rfl) rfl dX0_copy_26 ?_
  refine x_genL (fun l7 el7 => ?_)
  refine x_putL C pkX_X0_29 (nlt rfl) rfl dX0_copy_29 ?_
  refine x_gX (fun Yy8 eYy8 => ?_)
  have hHy8 : HG vX Yy8 := by
    rw [eYy8]
    exact hg_wLF hHy6 (p := ((-9223372036854775808), 9223372036854775807)) rfl (l64 _)
  have hFy8 : FR (cMd k_X_422) X Yy8 := by
    rw [eYy8]
    exact FR.upL hFy6 (rfl)
  replace eYy8 : Yy8 = upL Yy6 7 3 (l7) := eYy8
  refine x_aload_n (i := 0) C dX0_copy_32 rfl rfl ?_
  refine x_aload_n (i := 1) C dX0_copy_33 rfl rfl ?_
  refine x_getI C fkX_X0_32 (nlt rfl) rfl dX0_copy_34 ?_
  refine x_gen (fun v9 ev9 => ?_)
  have qv9 : (0 : Int) ≤ v9 ∧ v9 ≤ (6 : Int) := by
    rw [ev9]
    exact hHy8.rF (k := 146) (i := 4) rfl rfl
  refine x_putI C pkX_X0_32 (nlt rfl) rfl dX0_copy_37 ?_
  refine x_gX (fun Yy10 eYy10 => ?_)
  have hHy10 : HG vX Yy10 := by
    rw [eYy10]
    exact hg_wF hHy8 (p := (0, 6)) rfl ⟨by omega, by omega⟩
  have hFy10 : FR (cMd k_X_422) X Yy10 := by
    rw [eYy10]
    exact FR.upI hFy8 (rfl)
  replace eYy10 : Yy10 = upI Yy8 7 4 (v9) := eYy10
  refine x_aload_n (i := 1) C dX0_copy_40 rfl rfl ?_
  refine x_getRs (r := 147) C fkX_X0_9 (nlt rfl) rfl (HG.rR hHy10 (k := 146) (i := 5) rfl rfl) dX0_copy_41 ?_
  refine x_iconst C dX0_copy_44 ?_
  refine x_aload_n (i := 0) C dX0_copy_45 rfl rfl ?_
  refine x_getRs (r := 8) C fkX_X0_9 (nlt rfl) rfl (HG.rR hHy10 (k := 7) (i := 5) rfl rfl) dX0_copy_46 ?_
  refine x_iconst C dX0_copy_49 ?_
  refine x_bipush C dX0_copy_50 (by decide) ?_
  refine x_cpyI C cpX0_35 (nlt rfl) rfl rfl (nlt rfl) rfl rfl rfl (by omega) (by omega) (by omega) (by omega) (by omega) (nle rfl) (nle rfl) (nle rfl) (nle rfl) dX0_copy_52 ?_
  refine x_gX (fun Yy11 eYy11 => ?_)
  have hHy11 : HG vX Yy11 := by
    rw [eYy11]
    exact HG.cpI hHy10 (nlt rfl) rfl (nle rfl) (by decide +kernel)
  have hFy11 : FR (cMd k_X_422) X Yy11 := by
    rw [eYy11]
    exact FR.cpI hFy10 (fun _ => rfl)
  refine x_aload_n (i := 1) C dX0_copy_55 rfl rfl ?_
  refine x_getRs (r := 148) C fkX_X0_15 (nlt rfl) rfl (HG.rR hHy11 (k := 146) (i := 6) rfl rfl) dX0_copy_56 ?_
  refine x_iconst C dX0_copy_59 ?_
  refine x_aload_n (i := 0) C dX0_copy_60 rfl rfl ?_
  refine x_getRs (r := 9) C fkX_X0_15 (nlt rfl) rfl (HG.rR hHy11 (k := 7) (i := 6) rfl rfl) dX0_copy_61 ?_
  refine x_iconst C dX0_copy_64 ?_
  refine x_bipush C dX0_copy_65 (by decide) ?_
  refine x_cpyI C cpX0_35 (nlt rfl) rfl rfl (nlt rfl) rfl rfl rfl (by omega) (by omega) (by omega) (by omega) (by omega) (nle rfl) (nle rfl) (nle rfl) (nle rfl) dX0_copy_67 ?_
  refine x_gX (fun Yy12 eYy12 => ?_)
  have hHy12 : HG vX Yy12 := by
    rw [eYy12]
    exact HG.cpI hHy11 (nlt rfl) rfl (nle rfl) (by decide +kernel)
  have hFy12 : FR (cMd k_X_422) X Yy12 := by
    rw [eYy12]
    exact FR.cpI hFy11 (fun _ => rfl)
  exact x_vret C hQ dX0_copy_70 (⟨rfl, hHy12, hFy12, by rw [eYy12, cpI_o1 (by decide), eYy11, cpI_o1 (by decide), eYy10, upI_at, ev9, (hFy8 146 4 rfl).1], fun j hj => by rw [eYy12, cpI_r hj, eYy11, cpI_o1 (by decide), (hFy10 148 j rfl).1]⟩)
set_option maxRecDepth 10000 in
theorem t_X_422 {D : va_G} {ad : Nat → Nat} {cA : Nat → ClassId} : CTR mtX vX gX (wX D ad cA) k_X_422 := by
  intro g X hpre
  obtain ⟨h00, hei, hel, hdl, hH, hE⟩ := hpre
  have h0 : (0 : Int) ≤ g.1 0 ∧ g.1 0 ≤ (0 : Int) := hei 0 _ rfl
  refine MetX.imp (fun r X1 hp => ?_) (xf_copy7_146 (X := X) hH FR.rf)
  obtain ⟨rfl, hH1, hF1, hm, hf⟩ := hp
  have hE1 : MENOK X1 := by
    intro q hq j hj
    by_cases hc : q = (7, 9)
    · subst hc
      have m6 : (0 : Int) ≤ X.1 146 4 ∧ X.1 146 4 ≤ (6 : Int) := hH.rF (k := 146) (i := 4) (p := (0, 6)) rfl rfl
      have hj2 : (j : Int) < X.1 146 4 := by rw [← hm]; exact hj
      show 0 ≤ X1.1 9 j ∧ X1.1 9 j ≤ 35
      rw [hf j (by omega)]
      exact hE (146, 148) (by decide) j hj2
    · have no : ∀ p ∈ tb8, p ≠ (7, 9) → ∀ i, inM (cMd k_X_422) p.1 i = false ∧ inM (cMd k_X_422) p.2 i = false := noM (by decide +kernel)
      rw [(hF1 q.2 j (no q hq hc j).2).1]
      rw [(hF1 q.1 _ (no q hq hc _).1).1] at hj
      exact hE q hq j hj
  exact (altM_mk 0 [] rfl (ei_cons ⟨by show (0 : Int) ≤ g.1 0; omega, by show g.1 0 ≤ (0 : Int); omega⟩ ei_nil) el_nil (by rfl) dl_nil gd_nil hH1 hE1 hF1)
set_option maxHeartbeats 4000000 in
set_option maxRecDepth 100000 in
theorem xf_copy10_149 {D : va_G} {ad : Nat → Nat} {cA : Nat → ClassId} {X : XT} (hH : HG vX X) (hF : FR (cMd k_X_423) X X) : MetX (wX D ad cA) yX0_copy cX0_copy 2 none 1 60 [.ref 10, .ref 149] X (fun r X1 => r = none ∧ HG vX X1 ∧ FR (cMd k_X_423) X X1 ∧ X1.1 10 4 = X.1 149 4 ∧ (∀ j, j < 6 → X1.1 12 j = X.1 151 j)) := by
  refine MetX.mk (own := RX0) (by decide +kernel) rfl (nle rfl) (fun E C hQ => ?_)
  refine Wx_lv (lv' := [(0, .ref 10), (1, .ref 149)]) rfl ?_
  refine x_aload_n (i := 0) C dX0_copy_0 rfl rfl ?_
  refine x_aload_n (i := 1) C dX0_copy_1 rfl rfl ?_
  refine x_getI C fkX_X0_18 (nlt rfl) rfl dX0_copy_2 ?_
  refine x_gen (fun v1 ev1 => ?_)
  have qv1 : (0 : Int) ≤ v1 ∧ v1 ≤ (6 : Int) := by
    rw [ev1]
    exact hH.rF (k := 149) (i := 0) rfl rfl
  refine x_putI C pkX_X0_18 (nlt rfl) rfl dX0_copy_5 ?_
  refine x_gX (fun Yy2 eYy2 => ?_)
  have hHy2 : HG vX Yy2 := by
    rw [eYy2]
    exact hg_wF hH (p := (0, 6)) rfl ⟨by omega, by omega⟩
  have hFy2 : FR (cMd k_X_423) X Yy2 := by
    rw [eYy2]
    exact FR.upI hF (rfl)
  replace eYy2 : Yy2 = upI X 10 0 (v1) := eYy2
  refine x_aload_n (i := 0) C dX0_copy_8 rfl rfl ?_
  refine x_aload_n (i := 1) C dX0_copy_9 rfl rfl ?_
  refine x_getI C fkX_X0_22 (nlt rfl) rfl dX0_copy_10 ?_
  refine x_gen (fun v3 ev3 => ?_)
  have qv3 : (0 : Int) ≤ v3 ∧ v3 ≤ (6 : Int) := by
    rw [ev3]
    exact hHy2.rF (k := 149) (i := 1) rfl rfl
  refine x_putI C pkX_X0_22 (nlt rfl) rfl dX0_copy_13 ?_
  refine x_gX (fun Yy4 eYy4 => ?_)
  have hHy4 : HG vX Yy4 := by
    rw [eYy4]
    exact hg_wF hHy2 (p := (0, 6)) rfl ⟨by omega, by omega⟩
  have hFy4 : FR (cMd k_X_423) X Yy4 := by
    rw [eYy4]
    exact FR.upI hFy2 (rfl)
  replace eYy4 : Yy4 = upI Yy2 10 1 (v3) := eYy4
  refine x_aload_n (i := 0) C dX0_copy_16 rfl rfl ?_
  refine x_aload_n (i := 1) C dX0_copy_17 rfl rfl ?_
  refine x_getL C fkX_X0_25 (nlt rfl) rfl dX0_copy_18 ?_
  refine x_genL (fun l5 el5 => ?_)
  refine x_putL C pkX_X0_25 (nlt rfl) rfl dX0_copy_21 ?_
  refine x_gX (fun Yy6 eYy6 => ?_)
  have hHy6 : HG vX Yy6 := by
    rw [eYy6]
    exact hg_wLF hHy4 (p := ((-9223372036854775808), 9223372036854775807)) rfl (l64 _)
  have hFy6 : FR (cMd k_X_423) X Yy6 := by
    rw [eYy6]
    exact FR.upL hFy4 (rfl)
  replace eYy6 : Yy6 = upL Yy4 10 2 (l5) := eYy6
  refine x_aload_n (i := 0) C dX0_copy_24 rfl rfl ?_
  refine x_aload_n (i := 1) C dX0_copy_25 rfl rfl ?_
  refine x_getL C fkX_X0_29 (nlt rfl) rfl dX0_copy_26 ?_
  refine x_genL (fun l7 el7 => ?_)
  refine x_putL C pkX_X0_29 (nlt rfl) rfl dX0_copy_29 ?_
  refine x_gX (fun Yy8 eYy8 => ?_)
  have hHy8 : HG vX Yy8 := by
    rw [eYy8]
    exact hg_wLF hHy6 (p := ((-9223372036854775808), 9223372036854775807)) rfl (l64 _)
  have hFy8 : FR (cMd k_X_423) X Yy8 := by
    rw [eYy8]
    exact FR.upL hFy6 (rfl)
  replace eYy8 : Yy8 = upL Yy6 10 3 (l7) := eYy8
  refine x_aload_n (i := 0) C dX0_copy_32 rfl rfl ?_
  refine x_aload_n (i := 1) C dX0_copy_33 rfl rfl ?_
  refine x_getI C fkX_X0_32 (nlt rfl) rfl dX0_copy_34 ?_
  refine x_gen (fun v9 ev9 => ?_)
  have qv9 : (0 : Int) ≤ v9 ∧ v9 ≤ (6 : Int) := by
    rw [ev9]
    exact hHy8.rF (k := 149) (i := 4) rfl rfl
  refine x_putI C pkX_X0_32 (nlt rfl) rfl dX0_copy_37 ?_
  refine x_gX (fun Yy10 eYy10 => ?_)
  have hHy10 : HG vX Yy10 := by
    rw [eYy10]
    exact hg_wF hHy8 (p := (0, 6)) rfl ⟨by omega, by omega⟩
  have hFy10 : FR (cMd k_X_423) X Yy10 := by
    rw [eYy10]
    exact FR.upI hFy8 (rfl)
  replace eYy10 : Yy10 = upI Yy8 10 4 (v9) := eYy10
  refine x_aload_n (i := 1) C dX0_copy_40 rfl rfl ?_
  refine x_getRs (r := 150) C fkX_X0_9 (nlt rfl) rfl (HG.rR hHy10 (k := 149) (i := 5) rfl rfl) dX0_copy_41 ?_
  refine x_iconst C dX0_copy_44 ?_
  refine x_aload_n (i := 0) C dX0_copy_45 rfl rfl ?_
  refine x_getRs (r := 11) C fkX_X0_9 (nlt rfl) rfl (HG.rR hHy10 (k := 10) (i := 5) rfl rfl) dX0_copy_46 ?_
  refine x_iconst C dX0_copy_49 ?_
  refine x_bipush C dX0_copy_50 (by decide) ?_
  refine x_cpyI C cpX0_35 (nlt rfl) rfl rfl (nlt rfl) rfl rfl rfl (by omega) (by omega) (by omega) (by omega) (by omega) (nle rfl) (nle rfl) (nle rfl) (nle rfl) dX0_copy_52 ?_
  refine x_gX (fun Yy11 eYy11 => ?_)
  have hHy11 : HG vX Yy11 := by
    rw [eYy11]
    exact HG.cpI hHy10 (nlt rfl) rfl (nle rfl) (by decide +kernel)
  have hFy11 : FR (cMd k_X_423) X Yy11 := by
    rw [eYy11]
    exact FR.cpI hFy10 (fun _ => rfl)
  refine x_aload_n (i := 1) C dX0_copy_55 rfl rfl ?_
  refine x_getRs (r := 151) C fkX_X0_15 (nlt rfl) rfl (HG.rR hHy11 (k := 149) (i := 6) rfl rfl) dX0_copy_56 ?_
  refine x_iconst C dX0_copy_59 ?_
  refine x_aload_n (i := 0) C dX0_copy_60 rfl rfl ?_
  refine x_getRs (r := 12) C fkX_X0_15 (nlt rfl) rfl (HG.rR hHy11 (k := 10) (i := 6) rfl rfl) dX0_copy_61 ?_
  refine x_iconst C dX0_copy_64 ?_
  refine x_bipush C dX0_copy_65 (by decide) ?_
  refine x_cpyI C cpX0_35 (nlt rfl) rfl rfl (nlt rfl) rfl rfl rfl (by omega) (by omega) (by omega) (by omega) (by omega) (nle rfl) (nle rfl) (nle rfl) (nle rfl) dX0_copy_67 ?_
  refine x_gX (fun Yy12 eYy12 => ?_)
  have hHy12 : HG vX Yy12 := by
    rw [eYy12]
    exact HG.cpI hHy11 (nlt rfl) rfl (nle rfl) (by decide +kernel)
  have hFy12 : FR (cMd k_X_423) X Yy12 := by
    rw [eYy12]
    exact FR.cpI hFy11 (fun _ => rfl)
  exact x_vret C hQ dX0_copy_70 (⟨rfl, hHy12, hFy12, by rw [eYy12, cpI_o1 (by decide), eYy11, cpI_o1 (by decide), eYy10, upI_at, ev9, (hFy8 149 4 rfl).1], fun j hj => by rw [eYy12, cpI_r hj, eYy11, cpI_o1 (by decide), (hFy10 151 j rfl).1]⟩)
set_option maxRecDepth 10000 in
theorem t_X_423 {D : va_G} {ad : Nat → Nat} {cA : Nat → ClassId} : CTR mtX vX gX (wX D ad cA) k_X_423 := by
  intro g X hpre
  obtain ⟨h00, hei, hel, hdl, hH, hE⟩ := hpre
  have h0 : (0 : Int) ≤ g.1 0 ∧ g.1 0 ≤ (0 : Int) := hei 0 _ rfl
  refine MetX.imp (fun r X1 hp => ?_) (xf_copy10_149 (X := X) hH FR.rf)
  obtain ⟨rfl, hH1, hF1, hm, hf⟩ := hp
  have hE1 : MENOK X1 := by
    intro q hq j hj
    by_cases hc : q = (10, 12)
    · subst hc
      have m6 : (0 : Int) ≤ X.1 149 4 ∧ X.1 149 4 ≤ (6 : Int) := hH.rF (k := 149) (i := 4) (p := (0, 6)) rfl rfl
      have hj2 : (j : Int) < X.1 149 4 := by rw [← hm]; exact hj
      show 0 ≤ X1.1 12 j ∧ X1.1 12 j ≤ 35
      rw [hf j (by omega)]
      exact hE (149, 151) (by decide) j hj2
    · have no : ∀ p ∈ tb8, p ≠ (10, 12) → ∀ i, inM (cMd k_X_423) p.1 i = false ∧ inM (cMd k_X_423) p.2 i = false := noM (by decide +kernel)
      rw [(hF1 q.2 j (no q hq hc j).2).1]
      rw [(hF1 q.1 _ (no q hq hc _).1).1] at hj
      exact hE q hq j hj
  exact (altM_mk 0 [] rfl (ei_cons ⟨by show (0 : Int) ≤ g.1 0; omega, by show g.1 0 ≤ (0 : Int); omega⟩ ei_nil) el_nil (by rfl) dl_nil gd_nil hH1 hE1 hF1)
set_option maxHeartbeats 4000000 in
set_option maxRecDepth 100000 in
theorem xf_copy7_128 {D : va_G} {ad : Nat → Nat} {cA : Nat → ClassId} {X : XT} (hH : HG vX X) (hF : FR (cMd k_X_427) X X) : MetX (wX D ad cA) yX0_copy cX0_copy 2 none 1 60 [.ref 7, .ref 128] X (fun r X1 => r = none ∧ HG vX X1 ∧ FR (cMd k_X_427) X X1 ∧ X1.1 7 4 = X.1 128 4 ∧ (∀ j, j < 6 → X1.1 9 j = X.1 130 j)) := by
  refine MetX.mk (own := RX0) (by decide +kernel) rfl (nle rfl) (fun E C hQ => ?_)
  refine Wx_lv (lv' := [(0, .ref 7), (1, .ref 128)]) rfl ?_
  refine x_aload_n (i := 0) C dX0_copy_0 rfl rfl ?_
  refine x_aload_n (i := 1) C dX0_copy_1 rfl rfl ?_
  refine x_getI C fkX_X0_18 (nlt rfl) rfl dX0_copy_2 ?_
  refine x_gen (fun v1 ev1 => ?_)
  have qv1 : (0 : Int) ≤ v1 ∧ v1 ≤ (6 : Int) := by
    rw [ev1]
    exact hH.rF (k := 128) (i := 0) rfl rfl
  refine x_putI C pkX_X0_18 (nlt rfl) rfl dX0_copy_5 ?_
  refine x_gX (fun Yy2 eYy2 => ?_)
  have hHy2 : HG vX Yy2 := by
    rw [eYy2]
    exact hg_wF hH (p := (0, 6)) rfl ⟨by omega, by omega⟩
  have hFy2 : FR (cMd k_X_427) X Yy2 := by
    rw [eYy2]
    exact FR.upI hF (rfl)
  replace eYy2 : Yy2 = upI X 7 0 (v1) := eYy2
  refine x_aload_n (i := 0) C dX0_copy_8 rfl rfl ?_
  refine x_aload_n (i := 1) C dX0_copy_9 rfl rfl ?_
  refine x_getI C fkX_X0_22 (nlt rfl) rfl dX0_copy_10 ?_
  refine x_gen (fun v3 ev3 => ?_)
  have qv3 : (0 : Int) ≤ v3 ∧ v3 ≤ (6 : Int) := by
    rw [ev3]
    exact hHy2.rF (k := 128) (i := 1) rfl rfl
  refine x_putI C pkX_X0_22 (nlt rfl) rfl dX0_copy_13 ?_
  refine x_gX (fun Yy4 eYy4 => ?_)
  have hHy4 : HG vX Yy4 := by
    rw [eYy4]
    exact hg_wF hHy2 (p := (0, 6)) rfl ⟨by omega, by omega⟩
  have hFy4 : FR (cMd k_X_427) X Yy4 := by
    rw [eYy4]
    exact FR.upI hFy2 (rfl)
  replace eYy4 : Yy4 = upI Yy2 7 1 (v3) := eYy4
  refine x_aload_n (i := 0) C dX0_copy_16 rfl rfl ?_
  refine x_aload_n (i := 1) C dX0_copy_17 rfl rfl ?_
  refine x_getL C fkX_X0_25 (nlt rfl) rfl dX0_copy_18 ?_
  refine x_genL (fun l5 el5 => ?_)
  refine x_putL C pkX_X0_25 (nlt rfl) rfl dX0_copy_21 ?_
  refine x_gX (fun Yy6 eYy6 => ?_)
  have hHy6 : HG vX Yy6 := by
    rw [eYy6]
    exact hg_wLF hHy4 (p := ((-9223372036854775808), 9223372036854775807)) rfl (l64 _)
  have hFy6 : FR (cMd k_X_427) X Yy6 := by
    rw [eYy6]
    exact FR.upL hFy4 (rfl)
  replace eYy6 : Yy6 = upL Yy4 7 2 (l5) := eYy6
  refine x_aload_n (i := 0) C dX0_copy_24 rfl rfl ?_
  refine x_aload_n (i := 1) C dX0_copy_25 rfl rfl ?_
  refine x_getL C fkX_X0_29 (nlt rfl) rfl dX0_copy_26 ?_
  refine x_genL (fun l7 el7 => ?_)
  refine x_putL C pkX_X0_29 (nlt rfl) rfl dX0_copy_29 ?_
  refine x_gX (fun Yy8 eYy8 => ?_)
  have hHy8 : HG vX Yy8 := by
    rw [eYy8]
    exact hg_wLF hHy6 (p := ((-9223372036854775808), 9223372036854775807)) rfl (l64 _)
  have hFy8 : FR (cMd k_X_427) X Yy8 := by
    rw [eYy8]
    exact FR.upL hFy6 (rfl)
  replace eYy8 : Yy8 = upL Yy6 7 3 (l7) := eYy8
  refine x_aload_n (i := 0) C dX0_copy_32 rfl rfl ?_
  refine x_aload_n (i := 1) C dX0_copy_33 rfl rfl ?_
  refine x_getI C fkX_X0_32 (nlt rfl) rfl dX0_copy_34 ?_
  refine x_gen (fun v9 ev9 => ?_)
  have qv9 : (0 : Int) ≤ v9 ∧ v9 ≤ (6 : Int) := by
    rw [ev9]
    exact hHy8.rF (k := 128) (i := 4) rfl rfl
  refine x_putI C pkX_X0_32 (nlt rfl) rfl dX0_copy_37 ?_
  refine x_gX (fun Yy10 eYy10 => ?_)
  have hHy10 : HG vX Yy10 := by
    rw [eYy10]
    exact hg_wF hHy8 (p := (0, 6)) rfl ⟨by omega, by omega⟩
  have hFy10 : FR (cMd k_X_427) X Yy10 := by
    rw [eYy10]
    exact FR.upI hFy8 (rfl)
  replace eYy10 : Yy10 = upI Yy8 7 4 (v9) := eYy10
  refine x_aload_n (i := 1) C dX0_copy_40 rfl rfl ?_
  refine x_getRs (r := 129) C fkX_X0_9 (nlt rfl) rfl (HG.rR hHy10 (k := 128) (i := 5) rfl rfl) dX0_copy_41 ?_
  refine x_iconst C dX0_copy_44 ?_
  refine x_aload_n (i := 0) C dX0_copy_45 rfl rfl ?_
  refine x_getRs (r := 8) C fkX_X0_9 (nlt rfl) rfl (HG.rR hHy10 (k := 7) (i := 5) rfl rfl) dX0_copy_46 ?_
  refine x_iconst C dX0_copy_49 ?_
  refine x_bipush C dX0_copy_50 (by decide) ?_
  refine x_cpyI C cpX0_35 (nlt rfl) rfl rfl (nlt rfl) rfl rfl rfl (by omega) (by omega) (by omega) (by omega) (by omega) (nle rfl) (nle rfl) (nle rfl) (nle rfl) dX0_copy_52 ?_
  refine x_gX (fun Yy11 eYy11 => ?_)
  have hHy11 : HG vX Yy11 := by
    rw [eYy11]
    exact HG.cpI hHy10 (nlt rfl) rfl (nle rfl) (by decide +kernel)
  have hFy11 : FR (cMd k_X_427) X Yy11 := by
    rw [eYy11]
    exact FR.cpI hFy10 (fun _ => rfl)
  refine x_aload_n (i := 1) C dX0_copy_55 rfl rfl ?_
  refine x_getRs (r := 130) C fkX_X0_15 (nlt rfl) rfl (HG.rR hHy11 (k := 128) (i := 6) rfl rfl) dX0_copy_56 ?_
  refine x_iconst C dX0_copy_59 ?_
  refine x_aload_n (i := 0) C dX0_copy_60 rfl rfl ?_
  refine x_getRs (r := 9) C fkX_X0_15 (nlt rfl) rfl (HG.rR hHy11 (k := 7) (i := 6) rfl rfl) dX0_copy_61 ?_
  refine x_iconst C dX0_copy_64 ?_
  refine x_bipush C dX0_copy_65 (by decide) ?_
  refine x_cpyI C cpX0_35 (nlt rfl) rfl rfl (nlt rfl) rfl rfl rfl (by omega) (by omega) (by omega) (by omega) (by omega) (nle rfl) (nle rfl) (nle rfl) (nle rfl) dX0_copy_67 ?_
  refine x_gX (fun Yy12 eYy12 => ?_)
  have hHy12 : HG vX Yy12 := by
    rw [eYy12]
    exact HG.cpI hHy11 (nlt rfl) rfl (nle rfl) (by decide +kernel)
  have hFy12 : FR (cMd k_X_427) X Yy12 := by
    rw [eYy12]
    exact FR.cpI hFy11 (fun _ => rfl)
  exact x_vret C hQ dX0_copy_70 (⟨rfl, hHy12, hFy12, by rw [eYy12, cpI_o1 (by decide), eYy11, cpI_o1 (by decide), eYy10, upI_at, ev9, (hFy8 128 4 rfl).1], fun j hj => by rw [eYy12, cpI_r hj, eYy11, cpI_o1 (by decide), (hFy10 130 j rfl).1]⟩)
set_option maxRecDepth 10000 in
theorem t_X_427 {D : va_G} {ad : Nat → Nat} {cA : Nat → ClassId} : CTR mtX vX gX (wX D ad cA) k_X_427 := by
  intro g X hpre
  obtain ⟨h00, hei, hel, hdl, hH, hE⟩ := hpre
  have h0 : (0 : Int) ≤ g.1 0 ∧ g.1 0 ≤ (0 : Int) := hei 0 _ rfl
  refine MetX.imp (fun r X1 hp => ?_) (xf_copy7_128 (X := X) hH FR.rf)
  obtain ⟨rfl, hH1, hF1, hm, hf⟩ := hp
  have hE1 : MENOK X1 := by
    intro q hq j hj
    by_cases hc : q = (7, 9)
    · subst hc
      have m6 : (0 : Int) ≤ X.1 128 4 ∧ X.1 128 4 ≤ (6 : Int) := hH.rF (k := 128) (i := 4) (p := (0, 6)) rfl rfl
      have hj2 : (j : Int) < X.1 128 4 := by rw [← hm]; exact hj
      show 0 ≤ X1.1 9 j ∧ X1.1 9 j ≤ 35
      rw [hf j (by omega)]
      exact hE (128, 130) (by decide) j hj2
    · have no : ∀ p ∈ tb8, p ≠ (7, 9) → ∀ i, inM (cMd k_X_427) p.1 i = false ∧ inM (cMd k_X_427) p.2 i = false := noM (by decide +kernel)
      rw [(hF1 q.2 j (no q hq hc j).2).1]
      rw [(hF1 q.1 _ (no q hq hc _).1).1] at hj
      exact hE q hq j hj
  exact (altM_mk 0 [] rfl (ei_cons ⟨by show (0 : Int) ≤ g.1 0; omega, by show g.1 0 ≤ (0 : Int); omega⟩ ei_nil) el_nil (by rfl) dl_nil gd_nil hH1 hE1 hF1)
set_option maxHeartbeats 4000000 in
set_option maxRecDepth 100000 in
theorem xf_copy10_131 {D : va_G} {ad : Nat → Nat} {cA : Nat → ClassId} {X : XT} (hH : HG vX X) (hF : FR (cMd k_X_428) X X) : MetX (wX D ad cA) yX0_copy cX0_copy 2 none 1 60 [.ref 10, .ref 131] X (fun r X1 => r = none ∧ HG vX X1 ∧ FR (cMd k_X_428) X X1 ∧ X1.1 10 4 = X.1 131 4 ∧ (∀ j, j < 6 → X1.1 12 j = X.1 133 j)) := by
  refine MetX.mk (own := RX0) (by decide +kernel) rfl (nle rfl) (fun E C hQ => ?_)
  refine Wx_lv (lv' := [(0, .ref 10), (1, .ref 131)]) rfl ?_
  refine x_aload_n (i := 0) C dX0_copy_0 rfl rfl ?_
  refine x_aload_n (i := 1) C dX0_copy_1 rfl rfl ?_
  refine x_getI C fkX_X0_18 (nlt rfl) rfl dX0_copy_2 ?_
  refine x_gen (fun v1 ev1 => ?_)
  have qv1 : (0 : Int) ≤ v1 ∧ v1 ≤ (6 : Int) := by
    rw [ev1]
    exact hH.rF (k := 131) (i := 0) rfl rfl
  refine x_putI C pkX_X0_18 (nlt rfl) rfl dX0_copy_5 ?_
  refine x_gX (fun Yy2 eYy2 => ?_)
  have hHy2 : HG vX Yy2 := by
    rw [eYy2]
    exact hg_wF hH (p := (0, 6)) rfl ⟨by omega, by omega⟩
  have hFy2 : FR (cMd k_X_428) X Yy2 := by
    rw [eYy2]
    exact FR.upI hF (rfl)
  replace eYy2 : Yy2 = upI X 10 0 (v1) := eYy2
  refine x_aload_n (i := 0) C dX0_copy_8 rfl rfl ?_
  refine x_aload_n (i := 1) C dX0_copy_9 rfl rfl ?_
  refine x_getI C fkX_X0_22 (nlt rfl) rfl dX0_copy_10 ?_
  refine x_gen (fun v3 ev3 => ?_)
  have qv3 : (0 : Int) ≤ v3 ∧ v3 ≤ (6 : Int) := by
    rw [ev3]
    exact hHy2.rF (k := 131) (i := 1) rfl rfl
  refine x_putI C pkX_X0_22 (nlt rfl) rfl dX0_copy_13 ?_
  refine x_gX (fun Yy4 eYy4 => ?_)
  have hHy4 : HG vX Yy4 := by
    rw [eYy4]
    exact hg_wF hHy2 (p := (0, 6)) rfl ⟨by omega, by omega⟩
  have hFy4 : FR (cMd k_X_428) X Yy4 := by
    rw [eYy4]
    exact FR.upI hFy2 (rfl)
  replace eYy4 : Yy4 = upI Yy2 10 1 (v3) := eYy4
  refine x_aload_n (i := 0) C dX0_copy_16 rfl rfl ?_
  refine x_aload_n (i := 1) C dX0_copy_17 rfl rfl ?_
  refine x_getL C fkX_X0_25 (nlt rfl) rfl dX0_copy_18 ?_
  refine x_genL (fun l5 el5 => ?_)
  refine x_putL C pkX_X0_25 (nlt rfl) rfl dX0_copy_21 ?_
  refine x_gX (fun Yy6 eYy6 => ?_)
  have hHy6 : HG vX Yy6 := by
    rw [eYy6]
    exact hg_wLF hHy4 (p := ((-9223372036854775808), 9223372036854775807)) rfl (l64 _)
  have hFy6 : FR (cMd k_X_428) X Yy6 := by
    rw [eYy6]
    exact FR.upL hFy4 (rfl)
  replace eYy6 : Yy6 = upL Yy4 10 2 (l5) := eYy6
  refine x_aload_n (i := 0) C dX0_copy_24 rfl rfl ?_
  refine x_aload_n (i := 1) C dX0_copy_25 rfl rfl ?_
  refine x_getL C fkX_X0_29 (nlt rfl) rfl dX0_copy_26 ?_
  refine x_genL (fun l7 el7 => ?_)
  refine x_putL C pkX_X0_29 (nlt rfl) rfl dX0_copy_29 ?_
  refine x_gX (fun Yy8 eYy8 => ?_)
  have hHy8 : HG vX Yy8 := by
    rw [eYy8]
    exact hg_wLF hHy6 (p := ((-9223372036854775808), 9223372036854775807)) rfl (l64 _)
  have hFy8 : FR (cMd k_X_428) X Yy8 := by
    rw [eYy8]
    exact FR.upL hFy6 (rfl)
  replace eYy8 : Yy8 = upL Yy6 10 3 (l7) := eYy8
  refine x_aload_n (i := 0) C dX0_copy_32 rfl rfl ?_
  refine x_aload_n (i := 1) C dX0_copy_33 rfl rfl ?_
  refine x_getI C fkX_X0_32 (nlt rfl) rfl dX0_copy_34 ?_
  refine x_gen (fun v9 ev9 => ?_)
  have qv9 : (0 : Int) ≤ v9 ∧ v9 ≤ (6 : Int) := by
    rw [ev9]
    exact hHy8.rF (k := 131) (i := 4) rfl rfl
  refine x_putI C pkX_X0_32 (nlt rfl) rfl dX0_copy_37 ?_
  refine x_gX (fun Yy10 eYy10 => ?_)
  have hHy10 : HG vX Yy10 := by
    rw [eYy10]
    exact hg_wF hHy8 (p := (0, 6)) rfl ⟨by omega, by omega⟩
  have hFy10 : FR (cMd k_X_428) X Yy10 := by
    rw [eYy10]
    exact FR.upI hFy8 (rfl)
  replace eYy10 : Yy10 = upI Yy8 10 4 (v9) := eYy10
  refine x_aload_n (i := 1) C dX0_copy_40 rfl rfl ?_
  refine x_getRs (r := 132) C fkX_X0_9 (nlt rfl) rfl (HG.rR hHy10 (k := 131) (i := 5) rfl rfl) dX0_copy_41 ?_
  refine x_iconst C dX0_copy_44 ?_
  refine x_aload_n (i := 0) C dX0_copy_45 rfl rfl ?_
  refine x_getRs (r := 11) C fkX_X0_9 (nlt rfl) rfl (HG.rR hHy10 (k := 10) (i := 5) rfl rfl) dX0_copy_46 ?_
  refine x_iconst C dX0_copy_49 ?_
  refine x_bipush C dX0_copy_50 (by decide) ?_
  refine x_cpyI C cpX0_35 (nlt rfl) rfl rfl (nlt rfl) rfl rfl rfl (by omega) (by omega) (by omega) (by omega) (by omega) (nle rfl) (nle rfl) (nle rfl) (nle rfl) dX0_copy_52 ?_
  refine x_gX (fun Yy11 eYy11 => ?_)
  have hHy11 : HG vX Yy11 := by
    rw [eYy11]
    exact HG.cpI hHy10 (nlt rfl) rfl (nle rfl) (by decide +kernel)
  have hFy11 : FR (cMd k_X_428) X Yy11 := by
    rw [eYy11]
    exact FR.cpI hFy10 (fun _ => rfl)
  refine x_aload_n (i := 1) C dX0_copy_55 rfl rfl ?_
  refine x_getRs (r := 133) C fkX_X0_15 (nlt rfl) rfl (HG.rR hHy11 (k := 131) (i := 6) rfl rfl) dX0_copy_56 ?_
  refine x_iconst C dX0_copy_59 ?_
  refine x_aload_n (i := 0) C dX0_copy_60 rfl rfl ?_
  refine x_getRs (r := 12) C fkX_X0_15 (nlt rfl) rfl (HG.rR hHy11 (k := 10) (i := 6) rfl rfl) dX0_copy_61 ?_
  refine x_iconst C dX0_copy_64 ?_
  refine x_bipush C dX0_copy_65 (by decide) ?_
  refine x_cpyI C cpX0_35 (nlt rfl) rfl rfl (nlt rfl) rfl rfl rfl (by omega) (by omega) (by omega) (by omega) (by omega) (nle rfl) (nle rfl) (nle rfl) (nle rfl) dX0_copy_67 ?_
  refine x_gX (fun Yy12 eYy12 => ?_)
  have hHy12 : HG vX Yy12 := by
    rw [eYy12]
    exact HG.cpI hHy11 (nlt rfl) rfl (nle rfl) (by decide +kernel)
  have hFy12 : FR (cMd k_X_428) X Yy12 := by
    rw [eYy12]
    exact FR.cpI hFy11 (fun _ => rfl)
  exact x_vret C hQ dX0_copy_70 (⟨rfl, hHy12, hFy12, by rw [eYy12, cpI_o1 (by decide), eYy11, cpI_o1 (by decide), eYy10, upI_at, ev9, (hFy8 131 4 rfl).1], fun j hj => by rw [eYy12, cpI_r hj, eYy11, cpI_o1 (by decide), (hFy10 133 j rfl).1]⟩)
set_option maxRecDepth 10000 in
theorem t_X_428 {D : va_G} {ad : Nat → Nat} {cA : Nat → ClassId} : CTR mtX vX gX (wX D ad cA) k_X_428 := by
  intro g X hpre
  obtain ⟨h00, hei, hel, hdl, hH, hE⟩ := hpre
  have h0 : (0 : Int) ≤ g.1 0 ∧ g.1 0 ≤ (0 : Int) := hei 0 _ rfl
  refine MetX.imp (fun r X1 hp => ?_) (xf_copy10_131 (X := X) hH FR.rf)
  obtain ⟨rfl, hH1, hF1, hm, hf⟩ := hp
  have hE1 : MENOK X1 := by
    intro q hq j hj
    by_cases hc : q = (10, 12)
    · subst hc
      have m6 : (0 : Int) ≤ X.1 131 4 ∧ X.1 131 4 ≤ (6 : Int) := hH.rF (k := 131) (i := 4) (p := (0, 6)) rfl rfl
      have hj2 : (j : Int) < X.1 131 4 := by rw [← hm]; exact hj
      show 0 ≤ X1.1 12 j ∧ X1.1 12 j ≤ 35
      rw [hf j (by omega)]
      exact hE (131, 133) (by decide) j hj2
    · have no : ∀ p ∈ tb8, p ≠ (10, 12) → ∀ i, inM (cMd k_X_428) p.1 i = false ∧ inM (cMd k_X_428) p.2 i = false := noM (by decide +kernel)
      rw [(hF1 q.2 j (no q hq hc j).2).1]
      rw [(hF1 q.1 _ (no q hq hc _).1).1] at hj
      exact hE q hq j hj
  exact (altM_mk 0 [] rfl (ei_cons ⟨by show (0 : Int) ≤ g.1 0; omega, by show g.1 0 ≤ (0 : Int); omega⟩ ei_nil) el_nil (by rfl) dl_nil gd_nil hH1 hE1 hF1)
set_option maxHeartbeats 4000000 in
set_option maxRecDepth 100000 in
theorem xf_copy7_110 {D : va_G} {ad : Nat → Nat} {cA : Nat → ClassId} {X : XT} (hH : HG vX X) (hF : FR (cMd k_X_432) X X) : MetX (wX D ad cA) yX0_copy cX0_copy 2 none 1 60 [.ref 7, .ref 110] X (fun r X1 => r = none ∧ HG vX X1 ∧ FR (cMd k_X_432) X X1 ∧ X1.1 7 4 = X.1 110 4 ∧ (∀ j, j < 6 → X1.1 9 j = X.1 112 j)) := by
  refine MetX.mk (own := RX0) (by decide +kernel) rfl (nle rfl) (fun E C hQ => ?_)
  refine Wx_lv (lv' := [(0, .ref 7), (1, .ref 110)]) rfl ?_
  refine x_aload_n (i := 0) C dX0_copy_0 rfl rfl ?_
  refine x_aload_n (i := 1) C dX0_copy_1 rfl rfl ?_
  refine x_getI C fkX_X0_18 (nlt rfl) rfl dX0_copy_2 ?_
  refine x_gen (fun v1 ev1 => ?_)
  have qv1 : (0 : Int) ≤ v1 ∧ v1 ≤ (6 : Int) := by
    rw [ev1]
    exact hH.rF (k := 110) (i := 0) rfl rfl
  refine x_putI C pkX_X0_18 (nlt rfl) rfl dX0_copy_5 ?_
  refine x_gX (fun Yy2 eYy2 => ?_)
  have hHy2 : HG vX Yy2 := by
    rw [eYy2]
    exact hg_wF hH (p := (0, 6)) rfl ⟨by omega, by omega⟩
  have hFy2 : FR (cMd k_X_432) X Yy2 := by
    rw [eYy2]
    exact FR.upI hF (rfl)
  replace eYy2 : Yy2 = upI X 7 0 (v1) := eYy2
  refine x_aload_n (i := 0) C dX0_copy_8 rfl rfl ?_
  refine x_aload_n (i := 1) C dX0_copy_9 rfl rfl ?_
  refine x_getI C fkX_X0_22 (nlt rfl) rfl dX0_copy_10 ?_
  refine x_gen (fun v3 ev3 => ?_)
  have qv3 : (0 : Int) ≤ v3 ∧ v3 ≤ (6 : Int) := by
    rw [ev3]
    exact hHy2.rF (k := 110) (i := 1) rfl rfl
  refine x_putI C pkX_X0_22 (nlt rfl) rfl dX0_copy_13 ?_
  refine x_gX (fun Yy4 eYy4 => ?_)
  have hHy4 : HG vX Yy4 := by
    rw [eYy4]
    exact hg_wF hHy2 (p := (0, 6)) rfl ⟨by omega, by omega⟩
  have hFy4 : FR (cMd k_X_432) X Yy4 := by
    rw [eYy4]
    exact FR.upI hFy2 (rfl)
  replace eYy4 : Yy4 = upI Yy2 7 1 (v3) := eYy4
  refine x_aload_n (i := 0) C dX0_copy_16 rfl rfl ?_
  refine x_aload_n (i := 1) C dX0_copy_17 rfl rfl ?_
  refine x_getL C fkX_X0_25 (nlt rfl) rfl dX0_copy_18 ?_
  refine x_genL (fun l5 el5 => ?_)
  refine x_putL C pkX_X0_25 (nlt rfl) rfl dX0_copy_21 ?_
  refine x_gX (fun Yy6 eYy6 => ?_)
  have hHy6 : HG vX Yy6 := by
    rw [eYy6]
    exact hg_wLF hHy4 (p := ((-9223372036854775808), 9223372036854775807)) rfl (l64 _)
  have hFy6 : FR (cMd k_X_432) X Yy6 := by
    rw [eYy6]
    exact FR.upL hFy4 (rfl)
  replace eYy6 : Yy6 = upL Yy4 7 2 (l5) := eYy6
  refine x_aload_n (i := 0) C dX0_copy_24 rfl rfl ?_
  refine x_aload_n (i := 1) C dX0_copy_25 rfl rfl ?_
  refine x_getL C fkX_X0_29 (nlt rfl) rfl dX0_copy_26 ?_
  refine x_genL (fun l7 el7 => ?_)
  refine x_putL C pkX_X0_29 (nlt rfl) rfl dX0_copy_29 ?_
  refine x_gX (fun Yy8 eYy8 => ?_)
  have hHy8 : HG vX Yy8 := by
    rw [eYy8]
    exact hg_wLF hHy6 (p := ((-9223372036854775808), 9223372036854775807)) rfl (l64 _)
  have hFy8 : FR (cMd k_X_432) X Yy8 := by
    rw [eYy8]
    exact FR.upL hFy6 (rfl)
  replace eYy8 : Yy8 = upL Yy6 7 3 (l7) := eYy8
  refine x_aload_n (i := 0) C dX0_copy_32 rfl rfl ?_
  refine x_aload_n (i := 1) C dX0_copy_33 rfl rfl ?_
  refine x_getI C fkX_X0_32 (nlt rfl) rfl dX0_copy_34 ?_
  refine x_gen (fun v9 ev9 => ?_)
  have qv9 : (0 : Int) ≤ v9 ∧ v9 ≤ (6 : Int) := by
    rw [ev9]
    exact hHy8.rF (k := 110) (i := 4) rfl rfl
  refine x_putI C pkX_X0_32 (nlt rfl) rfl dX0_copy_37 ?_
  refine x_gX (fun Yy10 eYy10 => ?_)
  have hHy10 : HG vX Yy10 := by
    rw [eYy10]
    exact hg_wF hHy8 (p := (0, 6)) rfl ⟨by omega, by omega⟩
  have hFy10 : FR (cMd k_X_432) X Yy10 := by
    rw [eYy10]
    exact FR.upI hFy8 (rfl)
  replace eYy10 : Yy10 = upI Yy8 7 4 (v9) := eYy10
  refine x_aload_n (i := 1) C dX0_copy_40 rfl rfl ?_
  refine x_getRs (r := 111) C fkX_X0_9 (nlt rfl) rfl (HG.rR hHy10 (k := 110) (i := 5) rfl rfl) dX0_copy_41 ?_
  refine x_iconst C dX0_copy_44 ?_
  refine x_aload_n (i := 0) C dX0_copy_45 rfl rfl ?_
  refine x_getRs (r := 8) C fkX_X0_9 (nlt rfl) rfl (HG.rR hHy10 (k := 7) (i := 5) rfl rfl) dX0_copy_46 ?_
  refine x_iconst C dX0_copy_49 ?_
  refine x_bipush C dX0_copy_50 (by decide) ?_
  refine x_cpyI C cpX0_35 (nlt rfl) rfl rfl (nlt rfl) rfl rfl rfl (by omega) (by omega) (by omega) (by omega) (by omega) (nle rfl) (nle rfl) (nle rfl) (nle rfl) dX0_copy_52 ?_
  refine x_gX (fun Yy11 eYy11 => ?_)
  have hHy11 : HG vX Yy11 := by
    rw [eYy11]
    exact HG.cpI hHy10 (nlt rfl) rfl (nle rfl) (by decide +kernel)
  have hFy11 : FR (cMd k_X_432) X Yy11 := by
    rw [eYy11]
    exact FR.cpI hFy10 (fun _ => rfl)
  refine x_aload_n (i := 1) C dX0_copy_55 rfl rfl ?_
  refine x_getRs (r := 112) C fkX_X0_15 (nlt rfl) rfl (HG.rR hHy11 (k := 110) (i := 6) rfl rfl) dX0_copy_56 ?_
  refine x_iconst C dX0_copy_59 ?_
  refine x_aload_n (i := 0) C dX0_copy_60 rfl rfl ?_
  refine x_getRs (r := 9) C fkX_X0_15 (nlt rfl) rfl (HG.rR hHy11 (k := 7) (i := 6) rfl rfl) dX0_copy_61 ?_
  refine x_iconst C dX0_copy_64 ?_
  refine x_bipush C dX0_copy_65 (by decide) ?_
  refine x_cpyI C cpX0_35 (nlt rfl) rfl rfl (nlt rfl) rfl rfl rfl (by omega) (by omega) (by omega) (by omega) (by omega) (nle rfl) (nle rfl) (nle rfl) (nle rfl) dX0_copy_67 ?_
  refine x_gX (fun Yy12 eYy12 => ?_)
  have hHy12 : HG vX Yy12 := by
    rw [eYy12]
    exact HG.cpI hHy11 (nlt rfl) rfl (nle rfl) (by decide +kernel)
  have hFy12 : FR (cMd k_X_432) X Yy12 := by
    rw [eYy12]
    exact FR.cpI hFy11 (fun _ => rfl)
  exact x_vret C hQ dX0_copy_70 (⟨rfl, hHy12, hFy12, by rw [eYy12, cpI_o1 (by decide), eYy11, cpI_o1 (by decide), eYy10, upI_at, ev9, (hFy8 110 4 rfl).1], fun j hj => by rw [eYy12, cpI_r hj, eYy11, cpI_o1 (by decide), (hFy10 112 j rfl).1]⟩)
set_option maxRecDepth 10000 in
theorem t_X_432 {D : va_G} {ad : Nat → Nat} {cA : Nat → ClassId} : CTR mtX vX gX (wX D ad cA) k_X_432 := by
  intro g X hpre
  obtain ⟨h00, hei, hel, hdl, hH, hE⟩ := hpre
  have h0 : (0 : Int) ≤ g.1 0 ∧ g.1 0 ≤ (0 : Int) := hei 0 _ rfl
  refine MetX.imp (fun r X1 hp => ?_) (xf_copy7_110 (X := X) hH FR.rf)
  obtain ⟨rfl, hH1, hF1, hm, hf⟩ := hp
  have hE1 : MENOK X1 := by
    intro q hq j hj
    by_cases hc : q = (7, 9)
    · subst hc
      have m6 : (0 : Int) ≤ X.1 110 4 ∧ X.1 110 4 ≤ (6 : Int) := hH.rF (k := 110) (i := 4) (p := (0, 6)) rfl rfl
      have hj2 : (j : Int) < X.1 110 4 := by rw [← hm]; exact hj
      show 0 ≤ X1.1 9 j ∧ X1.1 9 j ≤ 35
      rw [hf j (by omega)]
      exact hE (110, 112) (by decide) j hj2
    · have no : ∀ p ∈ tb8, p ≠ (7, 9) → ∀ i, inM (cMd k_X_432) p.1 i = false ∧ inM (cMd k_X_432) p.2 i = false := noM (by decide +kernel)
      rw [(hF1 q.2 j (no q hq hc j).2).1]
      rw [(hF1 q.1 _ (no q hq hc _).1).1] at hj
      exact hE q hq j hj
  exact (altM_mk 0 [] rfl (ei_cons ⟨by show (0 : Int) ≤ g.1 0; omega, by show g.1 0 ≤ (0 : Int); omega⟩ ei_nil) el_nil (by rfl) dl_nil gd_nil hH1 hE1 hF1)
set_option maxHeartbeats 4000000 in
set_option maxRecDepth 100000 in
theorem xf_copy10_113 {D : va_G} {ad : Nat → Nat} {cA : Nat → ClassId} {X : XT} (hH : HG vX X) (hF : FR (cMd k_X_433) X X) : MetX (wX D ad cA) yX0_copy cX0_copy 2 none 1 60 [.ref 10, .ref 113] X (fun r X1 => r = none ∧ HG vX X1 ∧ FR (cMd k_X_433) X X1 ∧ X1.1 10 4 = X.1 113 4 ∧ (∀ j, j < 6 → X1.1 12 j = X.1 115 j)) := by
  refine MetX.mk (own := RX0) (by decide +kernel) rfl (nle rfl) (fun E C hQ => ?_)
  refine Wx_lv (lv' := [(0, .ref 10), (1, .ref 113)]) rfl ?_
  refine x_aload_n (i := 0) C dX0_copy_0 rfl rfl ?_
  refine x_aload_n (i := 1) C dX0_copy_1 rfl rfl ?_
  refine x_getI C fkX_X0_18 (nlt rfl) rfl dX0_copy_2 ?_
  refine x_gen (fun v1 ev1 => ?_)
  have qv1 : (0 : Int) ≤ v1 ∧ v1 ≤ (6 : Int) := by
    rw [ev1]
    exact hH.rF (k := 113) (i := 0) rfl rfl
  refine x_putI C pkX_X0_18 (nlt rfl) rfl dX0_copy_5 ?_
  refine x_gX (fun Yy2 eYy2 => ?_)
  have hHy2 : HG vX Yy2 := by
    rw [eYy2]
    exact hg_wF hH (p := (0, 6)) rfl ⟨by omega, by omega⟩
  have hFy2 : FR (cMd k_X_433) X Yy2 := by
    rw [eYy2]
    exact FR.upI hF (rfl)
  replace eYy2 : Yy2 = upI X 10 0 (v1) := eYy2
  refine x_aload_n (i := 0) C dX0_copy_8 rfl rfl ?_
  refine x_aload_n (i := 1) C dX0_copy_9 rfl rfl ?_
  refine x_getI C fkX_X0_22 (nlt rfl) rfl dX0_copy_10 ?_
  refine x_gen (fun v3 ev3 => ?_)
  have qv3 : (0 : Int) ≤ v3 ∧ v3 ≤ (6 : Int) := by
    rw [ev3]
    exact hHy2.rF (k := 113) (i := 1) rfl rfl
  refine x_putI C pkX_X0_22 (nlt rfl) rfl dX0_copy_13 ?_
  refine x_gX (fun Yy4 eYy4 => ?_)
  have hHy4 : HG vX Yy4 := by
    rw [eYy4]
    exact hg_wF hHy2 (p := (0, 6)) rfl ⟨by omega, by omega⟩
  have hFy4 : FR (cMd k_X_433) X Yy4 := by
    rw [eYy4]
    exact FR.upI hFy2 (rfl)
  replace eYy4 : Yy4 = upI Yy2 10 1 (v3) := eYy4
  refine x_aload_n (i := 0) C dX0_copy_16 rfl rfl ?_
  refine x_aload_n (i := 1) C dX0_copy_17 rfl rfl ?_
  refine x_getL C fkX_X0_25 (nlt rfl) rfl dX0_copy_18 ?_
  refine x_genL (fun l5 el5 => ?_)
  refine x_putL C pkX_X0_25 (nlt rfl) rfl dX0_copy_21 ?_
  refine x_gX (fun Yy6 eYy6 => ?_)
  have hHy6 : HG vX Yy6 := by
    rw [eYy6]
    exact hg_wLF hHy4 (p := ((-9223372036854775808), 9223372036854775807)) rfl (l64 _)
  have hFy6 : FR (cMd k_X_433) X Yy6 := by
    rw [eYy6]
    exact FR.upL hFy4 (rfl)
  replace eYy6 : Yy6 = upL Yy4 10 2 (l5) := eYy6
  refine x_aload_n (i := 0) C dX0_copy_24 rfl rfl ?_
  refine x_aload_n (i := 1) C dX0_copy_25 rfl rfl ?_
  refine x_getL C fkX_X0_29 (nlt rfl) rfl dX0_copy_26 ?_
  refine x_genL (fun l7 el7 => ?_)
  refine x_putL C pkX_X0_29 (nlt rfl) rfl dX0_copy_29 ?_
  refine x_gX (fun Yy8 eYy8 => ?_)
  have hHy8 : HG vX Yy8 := by
    rw [eYy8]
    exact hg_wLF hHy6 (p := ((-9223372036854775808), 9223372036854775807)) rfl (l64 _)
  have hFy8 : FR (cMd k_X_433) X Yy8 := by
    rw [eYy8]
    exact FR.upL hFy6 (rfl)
  replace eYy8 : Yy8 = upL Yy6 10 3 (l7) := eYy8
  refine x_aload_n (i := 0) C dX0_copy_32 rfl rfl ?_
  refine x_aload_n (i := 1) C dX0_copy_33 rfl rfl ?_
  refine x_getI C fkX_X0_32 (nlt rfl) rfl dX0_copy_34 ?_
  refine x_gen (fun v9 ev9 => ?_)
  have qv9 : (0 : Int) ≤ v9 ∧ v9 ≤ (6 : Int) := by
    rw [ev9]
    exact hHy8.rF (k := 113) (i := 4) rfl rfl
  refine x_putI C pkX_X0_32 (nlt rfl) rfl dX0_copy_37 ?_
  refine x_gX (fun Yy10 eYy10 => ?_)
  have hHy10 : HG vX Yy10 := by
    rw [eYy10]
    exact hg_wF hHy8 (p := (0, 6)) rfl ⟨by omega, by omega⟩
  have hFy10 : FR (cMd k_X_433) X Yy10 := by
    rw [eYy10]
    exact FR.upI hFy8 (rfl)
  replace eYy10 : Yy10 = upI Yy8 10 4 (v9) := eYy10
  refine x_aload_n (i := 1) C dX0_copy_40 rfl rfl ?_
  refine x_getRs (r := 114) C fkX_X0_9 (nlt rfl) rfl (HG.rR hHy10 (k := 113) (i := 5) rfl rfl) dX0_copy_41 ?_
  refine x_iconst C dX0_copy_44 ?_
  refine x_aload_n (i := 0) C dX0_copy_45 rfl rfl ?_
  refine x_getRs (r := 11) C fkX_X0_9 (nlt rfl) rfl (HG.rR hHy10 (k := 10) (i := 5) rfl rfl) dX0_copy_46 ?_
  refine x_iconst C dX0_copy_49 ?_
  refine x_bipush C dX0_copy_50 (by decide) ?_
  refine x_cpyI C cpX0_35 (nlt rfl) rfl rfl (nlt rfl) rfl rfl rfl (by omega) (by omega) (by omega) (by omega) (by omega) (nle rfl) (nle rfl) (nle rfl) (nle rfl) dX0_copy_52 ?_
  refine x_gX (fun Yy11 eYy11 => ?_)
  have hHy11 : HG vX Yy11 := by
    rw [eYy11]
    exact HG.cpI hHy10 (nlt rfl) rfl (nle rfl) (by decide +kernel)
  have hFy11 : FR (cMd k_X_433) X Yy11 := by
    rw [eYy11]
    exact FR.cpI hFy10 (fun _ => rfl)
  refine x_aload_n (i := 1) C dX0_copy_55 rfl rfl ?_
  refine x_getRs (r := 115) C fkX_X0_15 (nlt rfl) rfl (HG.rR hHy11 (k := 113) (i := 6) rfl rfl) dX0_copy_56 ?_
  refine x_iconst C dX0_copy_59 ?_
  refine x_aload_n (i := 0) C dX0_copy_60 rfl rfl ?_
  refine x_getRs (r := 12) C fkX_X0_15 (nlt rfl) rfl (HG.rR hHy11 (k := 10) (i := 6) rfl rfl) dX0_copy_61 ?_
  refine x_iconst C dX0_copy_64 ?_
  refine x_bipush C dX0_copy_65 (by decide) ?_
  refine x_cpyI C cpX0_35 (nlt rfl) rfl rfl (nlt rfl) rfl rfl rfl (by omega) (by omega) (by omega) (by omega) (by omega) (nle rfl) (nle rfl) (nle rfl) (nle rfl) dX0_copy_67 ?_
  refine x_gX (fun Yy12 eYy12 => ?_)
  have hHy12 : HG vX Yy12 := by
    rw [eYy12]
    exact HG.cpI hHy11 (nlt rfl) rfl (nle rfl) (by decide +kernel)
  have hFy12 : FR (cMd k_X_433) X Yy12 := by
    rw [eYy12]
    exact FR.cpI hFy11 (fun _ => rfl)
  exact x_vret C hQ dX0_copy_70 (⟨rfl, hHy12, hFy12, by rw [eYy12, cpI_o1 (by decide), eYy11, cpI_o1 (by decide), eYy10, upI_at, ev9, (hFy8 113 4 rfl).1], fun j hj => by rw [eYy12, cpI_r hj, eYy11, cpI_o1 (by decide), (hFy10 115 j rfl).1]⟩)
set_option maxRecDepth 10000 in
theorem t_X_433 {D : va_G} {ad : Nat → Nat} {cA : Nat → ClassId} : CTR mtX vX gX (wX D ad cA) k_X_433 := by
  intro g X hpre
  obtain ⟨h00, hei, hel, hdl, hH, hE⟩ := hpre
  have h0 : (0 : Int) ≤ g.1 0 ∧ g.1 0 ≤ (0 : Int) := hei 0 _ rfl
  refine MetX.imp (fun r X1 hp => ?_) (xf_copy10_113 (X := X) hH FR.rf)
  obtain ⟨rfl, hH1, hF1, hm, hf⟩ := hp
  have hE1 : MENOK X1 := by
    intro q hq j hj
    by_cases hc : q = (10, 12)
    · subst hc
      have m6 : (0 : Int) ≤ X.1 113 4 ∧ X.1 113 4 ≤ (6 : Int) := hH.rF (k := 113) (i := 4) (p := (0, 6)) rfl rfl
      have hj2 : (j : Int) < X.1 113 4 := by rw [← hm]; exact hj
      show 0 ≤ X1.1 12 j ∧ X1.1 12 j ≤ 35
      rw [hf j (by omega)]
      exact hE (113, 115) (by decide) j hj2
    · have no : ∀ p ∈ tb8, p ≠ (10, 12) → ∀ i, inM (cMd k_X_433) p.1 i = false ∧ inM (cMd k_X_433) p.2 i = false := noM (by decide +kernel)
      rw [(hF1 q.2 j (no q hq hc j).2).1]
      rw [(hF1 q.1 _ (no q hq hc _).1).1] at hj
      exact hE q hq j hj
  exact (altM_mk 0 [] rfl (ei_cons ⟨by show (0 : Int) ≤ g.1 0; omega, by show g.1 0 ≤ (0 : Int); omega⟩ ei_nil) el_nil (by rfl) dl_nil gd_nil hH1 hE1 hF1)
