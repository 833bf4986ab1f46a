/-! ===== the class reads ===== -/
theorem dX6_kindOf_0 : decode cX6_kindOf 0 = .ok (.iload_n 0, 1) := by decide +kernel
theorem dX6_kindOf_1 : decode cX6_kindOf 1 = .ok (.bipush 10, 2) := by decide +kernel
theorem dX6_kindOf_3 : decode cX6_kindOf 3 = .ok (.if_icmp .eq 9, 3) := by decide +kernel
theorem dX6_kindOf_6 : decode cX6_kindOf 6 = .ok (.iload_n 0, 1) := by decide +kernel
theorem dX6_kindOf_7 : decode cX6_kindOf 7 = .ok (.bipush 32, 2) := by decide +kernel
theorem dX6_kindOf_9 : decode cX6_kindOf 9 = .ok (.if_icmp .ne 5, 3) := by decide +kernel
theorem dX6_kindOf_12 : decode cX6_kindOf 12 = .ok (.iconst 0, 1) := by decide +kernel
theorem dX6_kindOf_13 : decode cX6_kindOf 13 = .ok (.ireturn, 1) := by decide +kernel
theorem dX6_kindOf_14 : decode cX6_kindOf 14 = .ok (.iload_n 0, 1) := by decide +kernel
theorem dX6_kindOf_15 : decode cX6_kindOf 15 = .ok (.bipush 97, 2) := by decide +kernel
theorem dX6_kindOf_17 : decode cX6_kindOf 17 = .ok (.if_icmp .lt 11, 3) := by decide +kernel
theorem dX6_kindOf_20 : decode cX6_kindOf 20 = .ok (.iload_n 0, 1) := by decide +kernel
theorem dX6_kindOf_21 : decode cX6_kindOf 21 = .ok (.bipush 122, 2) := by decide +kernel
theorem dX6_kindOf_23 : decode cX6_kindOf 23 = .ok (.if_icmp .gt 5, 3) := by decide +kernel
theorem dX6_kindOf_26 : decode cX6_kindOf 26 = .ok (.iconst 1, 1) := by decide +kernel
theorem dX6_kindOf_27 : decode cX6_kindOf 27 = .ok (.ireturn, 1) := by decide +kernel
theorem dX6_kindOf_28 : decode cX6_kindOf 28 = .ok (.iload_n 0, 1) := by decide +kernel
theorem dX6_kindOf_29 : decode cX6_kindOf 29 = .ok (.bipush 48, 2) := by decide +kernel
theorem dX6_kindOf_31 : decode cX6_kindOf 31 = .ok (.if_icmp .lt 11, 3) := by decide +kernel
theorem dX6_kindOf_34 : decode cX6_kindOf 34 = .ok (.iload_n 0, 1) := by decide +kernel
theorem dX6_kindOf_35 : decode cX6_kindOf 35 = .ok (.bipush 57, 2) := by decide +kernel
theorem dX6_kindOf_37 : decode cX6_kindOf 37 = .ok (.if_icmp .gt 5, 3) := by decide +kernel
theorem dX6_kindOf_40 : decode cX6_kindOf 40 = .ok (.iconst 2, 1) := by decide +kernel
theorem dX6_kindOf_41 : decode cX6_kindOf 41 = .ok (.ireturn, 1) := by decide +kernel
theorem dX6_kindOf_42 : decode cX6_kindOf 42 = .ok (.iload_n 0, 1) := by decide +kernel
theorem dX6_kindOf_43 : decode cX6_kindOf 43 = .ok (.bipush 59, 2) := by decide +kernel
theorem dX6_kindOf_45 : decode cX6_kindOf 45 = .ok (.if_icmp .ne 7, 3) := by decide +kernel
theorem dX6_kindOf_48 : decode cX6_kindOf 48 = .ok (.iconst 3, 1) := by decide +kernel
theorem dX6_kindOf_49 : decode cX6_kindOf 49 = .ok (.goto 4, 3) := by decide +kernel
theorem dX6_kindOf_52 : decode cX6_kindOf 52 = .ok (.iconst 4, 1) := by decide +kernel
theorem dX6_kindOf_53 : decode cX6_kindOf 53 = .ok (.ireturn, 1) := by decide +kernel
theorem dX6_advance_0 : decode cX6_advance 0 = .ok (.aload_n 0, 1) := by decide +kernel
theorem dX6_advance_1 : decode cX6_advance 1 = .ok (.aload_n 0, 1) := by decide +kernel
theorem dX6_advance_2 : decode cX6_advance 2 = .ok (.getfield 39, 3) := by decide +kernel
theorem dX6_advance_5 : decode cX6_advance 5 = .ok (.putfield 73, 3) := by decide +kernel
theorem dX6_advance_8 : decode cX6_advance 8 = .ok (.aload_n 0, 1) := by decide +kernel
theorem dX6_advance_9 : decode cX6_advance 9 = .ok (.getfield 73, 3) := by decide +kernel
theorem dX6_advance_12 : decode cX6_advance 12 = .ok (.aload_n 0, 1) := by decide +kernel
theorem dX6_advance_13 : decode cX6_advance 13 = .ok (.getfield 35, 3) := by decide +kernel
theorem dX6_advance_16 : decode cX6_advance 16 = .ok (.if_icmp .ge 31, 3) := by decide +kernel
theorem dX6_advance_19 : decode cX6_advance 19 = .ok (.aload_n 0, 1) := by decide +kernel
theorem dX6_advance_20 : decode cX6_advance 20 = .ok (.getfield 25, 3) := by decide +kernel
theorem dX6_advance_23 : decode cX6_advance 23 = .ok (.aload_n 0, 1) := by decide +kernel
theorem dX6_advance_24 : decode cX6_advance 24 = .ok (.getfield 73, 3) := by decide +kernel
theorem dX6_advance_27 : decode cX6_advance 27 = .ok (.iaload, 1) := by decide +kernel
theorem dX6_advance_28 : decode cX6_advance 28 = .ok (.invokestatic 167, 3) := by decide +kernel
theorem dX6_advance_31 : decode cX6_advance 31 = .ok (.ifCond .ne 16, 3) := by decide +kernel
theorem dX6_advance_34 : decode cX6_advance 34 = .ok (.aload_n 0, 1) := by decide +kernel
theorem dX6_advance_35 : decode cX6_advance 35 = .ok (.dup, 1) := by decide +kernel
theorem dX6_advance_36 : decode cX6_advance 36 = .ok (.getfield 73, 3) := by decide +kernel
theorem dX6_advance_39 : decode cX6_advance 39 = .ok (.iconst 1, 1) := by decide +kernel
theorem dX6_advance_40 : decode cX6_advance 40 = .ok (.iadd, 1) := by decide +kernel
theorem dX6_advance_41 : decode cX6_advance 41 = .ok (.putfield 73, 3) := by decide +kernel
theorem dX6_advance_44 : decode cX6_advance 44 = .ok (.goto (-36), 3) := by decide +kernel
theorem dX6_advance_47 : decode cX6_advance 47 = .ok (.aload_n 0, 1) := by decide +kernel
theorem dX6_advance_48 : decode cX6_advance 48 = .ok (.aload_n 0, 1) := by decide +kernel
theorem dX6_advance_49 : decode cX6_advance 49 = .ok (.getfield 73, 3) := by decide +kernel
theorem dX6_advance_52 : decode cX6_advance 52 = .ok (.aload_n 0, 1) := by decide +kernel
theorem dX6_advance_53 : decode cX6_advance 53 = .ok (.getfield 35, 3) := by decide +kernel
theorem dX6_advance_56 : decode cX6_advance 56 = .ok (.if_icmp .ge 18, 3) := by decide +kernel
theorem dX6_advance_59 : decode cX6_advance 59 = .ok (.aload_n 0, 1) := by decide +kernel
theorem dX6_advance_60 : decode cX6_advance 60 = .ok (.getfield 25, 3) := by decide +kernel
theorem dX6_advance_63 : decode cX6_advance 63 = .ok (.aload_n 0, 1) := by decide +kernel
theorem dX6_advance_64 : decode cX6_advance 64 = .ok (.getfield 73, 3) := by decide +kernel
theorem dX6_advance_67 : decode cX6_advance 67 = .ok (.iaload, 1) := by decide +kernel
theorem dX6_advance_68 : decode cX6_advance 68 = .ok (.invokestatic 167, 3) := by decide +kernel
theorem dX6_advance_71 : decode cX6_advance 71 = .ok (.goto 4, 3) := by decide +kernel
theorem dX6_advance_74 : decode cX6_advance 74 = .ok (.iconst 5, 1) := by decide +kernel
theorem dX6_advance_75 : decode cX6_advance 75 = .ok (.putfield 61, 3) := by decide +kernel
theorem dX6_advance_78 : decode cX6_advance 78 = .ok (.aload_n 0, 1) := by decide +kernel
theorem dX6_advance_79 : decode cX6_advance 79 = .ok (.aload_n 0, 1) := by decide +kernel
theorem dX6_advance_80 : decode cX6_advance 80 = .ok (.getfield 73, 3) := by decide +kernel
theorem dX6_advance_83 : decode cX6_advance 83 = .ok (.aload_n 0, 1) := by decide +kernel
theorem dX6_advance_84 : decode cX6_advance 84 = .ok (.getfield 35, 3) := by decide +kernel
theorem dX6_advance_87 : decode cX6_advance 87 = .ok (.if_icmp .ge 12, 3) := by decide +kernel
theorem dX6_advance_90 : decode cX6_advance 90 = .ok (.aload_n 0, 1) := by decide +kernel
theorem dX6_advance_91 : decode cX6_advance 91 = .ok (.getfield 73, 3) := by decide +kernel
theorem dX6_advance_94 : decode cX6_advance 94 = .ok (.iconst 1, 1) := by decide +kernel
theorem dX6_advance_95 : decode cX6_advance 95 = .ok (.iadd, 1) := by decide +kernel
theorem dX6_advance_96 : decode cX6_advance 96 = .ok (.goto 7, 3) := by decide +kernel
theorem dX6_advance_99 : decode cX6_advance 99 = .ok (.aload_n 0, 1) := by decide +kernel
theorem dX6_advance_100 : decode cX6_advance 100 = .ok (.getfield 73, 3) := by decide +kernel
theorem dX6_advance_103 : decode cX6_advance 103 = .ok (.putfield 39, 3) := by decide +kernel
theorem dX6_advance_106 : decode cX6_advance 106 = .ok (.aload_n 0, 1) := by decide +kernel
theorem dX6_advance_107 : decode cX6_advance 107 = .ok (.getfield 61, 3) := by decide +kernel
theorem dX6_advance_110 : decode cX6_advance 110 = .ok (.iconst 1, 1) := by decide +kernel
theorem dX6_advance_111 : decode cX6_advance 111 = .ok (.if_icmp .eq 11, 3) := by decide +kernel
theorem dX6_advance_114 : decode cX6_advance 114 = .ok (.aload_n 0, 1) := by decide +kernel
theorem dX6_advance_115 : decode cX6_advance 115 = .ok (.getfield 61, 3) := by decide +kernel
theorem dX6_advance_118 : decode cX6_advance 118 = .ok (.iconst 2, 1) := by decide +kernel
theorem dX6_advance_119 : decode cX6_advance 119 = .ok (.if_icmp .ne 7, 3) := by decide +kernel
theorem dX6_advance_122 : decode cX6_advance 122 = .ok (.iconst 1, 1) := by decide +kernel
theorem dX6_advance_123 : decode cX6_advance 123 = .ok (.goto 4, 3) := by decide +kernel
theorem dX6_advance_126 : decode cX6_advance 126 = .ok (.iconst 0, 1) := by decide +kernel
theorem dX6_advance_127 : decode cX6_advance 127 = .ok (.istore_n 1, 1) := by decide +kernel
theorem dX6_advance_128 : decode cX6_advance 128 = .ok (.iload_n 1, 1) := by decide +kernel
theorem dX6_advance_129 : decode cX6_advance 129 = .ok (.ifCond .eq 46, 3) := by decide +kernel
theorem dX6_advance_132 : decode cX6_advance 132 = .ok (.aload_n 0, 1) := by decide +kernel
theorem dX6_advance_133 : decode cX6_advance 133 = .ok (.getfield 39, 3) := by decide +kernel
theorem dX6_advance_136 : decode cX6_advance 136 = .ok (.aload_n 0, 1) := by decide +kernel
theorem dX6_advance_137 : decode cX6_advance 137 = .ok (.getfield 35, 3) := by decide +kernel
theorem dX6_advance_140 : decode cX6_advance 140 = .ok (.if_icmp .ge 35, 3) := by decide +kernel
theorem dX6_advance_143 : decode cX6_advance 143 = .ok (.aload_n 0, 1) := by decide +kernel
theorem dX6_advance_144 : decode cX6_advance 144 = .ok (.getfield 25, 3) := by decide +kernel
theorem dX6_advance_147 : decode cX6_advance 147 = .ok (.aload_n 0, 1) := by decide +kernel
theorem dX6_advance_148 : decode cX6_advance 148 = .ok (.getfield 39, 3) := by decide +kernel
theorem dX6_advance_151 : decode cX6_advance 151 = .ok (.iaload, 1) := by decide +kernel
theorem dX6_advance_152 : decode cX6_advance 152 = .ok (.invokestatic 167, 3) := by decide +kernel
theorem dX6_advance_155 : decode cX6_advance 155 = .ok (.aload_n 0, 1) := by decide +kernel
theorem dX6_advance_156 : decode cX6_advance 156 = .ok (.getfield 61, 3) := by decide +kernel
theorem dX6_advance_159 : decode cX6_advance 159 = .ok (.if_icmp .ne 16, 3) := by decide +kernel
theorem dX6_advance_162 : decode cX6_advance 162 = .ok (.aload_n 0, 1) := by decide +kernel
theorem dX6_advance_163 : decode cX6_advance 163 = .ok (.dup, 1) := by decide +kernel
theorem dX6_advance_164 : decode cX6_advance 164 = .ok (.getfield 39, 3) := by decide +kernel
theorem dX6_advance_167 : decode cX6_advance 167 = .ok (.iconst 1, 1) := by decide +kernel
theorem dX6_advance_168 : decode cX6_advance 168 = .ok (.iadd, 1) := by decide +kernel
theorem dX6_advance_169 : decode cX6_advance 169 = .ok (.putfield 39, 3) := by decide +kernel
theorem dX6_advance_172 : decode cX6_advance 172 = .ok (.goto (-44), 3) := by decide +kernel
theorem dX6_advance_175 : decode cX6_advance 175 = .ok (.aload_n 0, 1) := by decide +kernel
theorem dX6_advance_176 : decode cX6_advance 176 = .ok (.getfield 61, 3) := by decide +kernel
theorem dX6_advance_179 : decode cX6_advance 179 = .ok (.iconst 2, 1) := by decide +kernel
theorem dX6_advance_180 : decode cX6_advance 180 = .ok (.if_icmp .ne 21, 3) := by decide +kernel
theorem dX6_advance_183 : decode cX6_advance 183 = .ok (.aload_n 0, 1) := by decide +kernel
theorem dX6_advance_184 : decode cX6_advance 184 = .ok (.getfield 39, 3) := by decide +kernel
theorem dX6_advance_187 : decode cX6_advance 187 = .ok (.aload_n 0, 1) := by decide +kernel
theorem dX6_advance_188 : decode cX6_advance 188 = .ok (.getfield 73, 3) := by decide +kernel
theorem dX6_advance_191 : decode cX6_advance 191 = .ok (.isub, 1) := by decide +kernel
theorem dX6_advance_192 : decode cX6_advance 192 = .ok (.iconst 2, 1) := by decide +kernel
theorem dX6_advance_193 : decode cX6_advance 193 = .ok (.if_icmp .le 8, 3) := by decide +kernel
theorem dX6_advance_196 : decode cX6_advance 196 = .ok (.aload_n 0, 1) := by decide +kernel
theorem dX6_advance_197 : decode cX6_advance 197 = .ok (.iconst 4, 1) := by decide +kernel
theorem dX6_advance_198 : decode cX6_advance 198 = .ok (.putfield 61, 3) := by decide +kernel
theorem dX6_advance_201 : decode cX6_advance 201 = .ok (.aload_n 0, 1) := by decide +kernel
theorem dX6_advance_202 : decode cX6_advance 202 = .ok (.iconst 0, 1) := by decide +kernel
theorem dX6_advance_203 : decode cX6_advance 203 = .ok (.putfield 157, 3) := by decide +kernel
theorem dX6_advance_206 : decode cX6_advance 206 = .ok (.aload_n 0, 1) := by decide +kernel
theorem dX6_advance_207 : decode cX6_advance 207 = .ok (.getfield 73, 3) := by decide +kernel
theorem dX6_advance_210 : decode cX6_advance 210 = .ok (.istore_n 2, 1) := by decide +kernel
theorem dX6_advance_211 : decode cX6_advance 211 = .ok (.iload_n 2, 1) := by decide +kernel
theorem dX6_advance_212 : decode cX6_advance 212 = .ok (.aload_n 0, 1) := by decide +kernel
theorem dX6_advance_213 : decode cX6_advance 213 = .ok (.getfield 39, 3) := by decide +kernel
theorem dX6_advance_216 : decode cX6_advance 216 = .ok (.if_icmp .ge 38, 3) := by decide +kernel
theorem dX6_advance_219 : decode cX6_advance 219 = .ok (.aload_n 0, 1) := by decide +kernel
theorem dX6_advance_220 : decode cX6_advance 220 = .ok (.getfield 61, 3) := by decide +kernel
theorem dX6_advance_223 : decode cX6_advance 223 = .ok (.iconst 2, 1) := by decide +kernel
theorem dX6_advance_224 : decode cX6_advance 224 = .ok (.if_icmp .ne 30, 3) := by decide +kernel
theorem dX6_advance_227 : decode cX6_advance 227 = .ok (.aload_n 0, 1) := by decide +kernel
theorem dX6_advance_228 : decode cX6_advance 228 = .ok (.bipush 10, 2) := by decide +kernel
theorem dX6_advance_230 : decode cX6_advance 230 = .ok (.aload_n 0, 1) := by decide +kernel
theorem dX6_advance_231 : decode cX6_advance 231 = .ok (.getfield 157, 3) := by decide +kernel
theorem dX6_advance_234 : decode cX6_advance 234 = .ok (.imul, 1) := by decide +kernel
theorem dX6_advance_235 : decode cX6_advance 235 = .ok (.aload_n 0, 1) := by decide +kernel
theorem dX6_advance_236 : decode cX6_advance 236 = .ok (.getfield 25, 3) := by decide +kernel
theorem dX6_advance_239 : decode cX6_advance 239 = .ok (.iload_n 2, 1) := by decide +kernel
theorem dX6_advance_240 : decode cX6_advance 240 = .ok (.iaload, 1) := by decide +kernel
theorem dX6_advance_241 : decode cX6_advance 241 = .ok (.iadd, 1) := by decide +kernel
theorem dX6_advance_242 : decode cX6_advance 242 = .ok (.bipush 48, 2) := by decide +kernel
theorem dX6_advance_244 : decode cX6_advance 244 = .ok (.isub, 1) := by decide +kernel
theorem dX6_advance_245 : decode cX6_advance 245 = .ok (.putfield 157, 3) := by decide +kernel
theorem dX6_advance_248 : decode cX6_advance 248 = .ok (.iinc 2 1, 3) := by decide +kernel
theorem dX6_advance_251 : decode cX6_advance 251 = .ok (.goto (-40), 3) := by decide +kernel
theorem dX6_advance_254 : decode cX6_advance 254 = .ok (.return_, 1) := by decide +kernel
theorem dX6_note_0 : decode cX6_note 0 = .ok (.aload_n 0, 1) := by decide +kernel
theorem dX6_note_1 : decode cX6_note 1 = .ok (.getfield 42, 3) := by decide +kernel
theorem dX6_note_4 : decode cX6_note 4 = .ok (.ifCond .ne 13, 3) := by decide +kernel
theorem dX6_note_7 : decode cX6_note 7 = .ok (.aload_n 0, 1) := by decide +kernel
theorem dX6_note_8 : decode cX6_note 8 = .ok (.iload_n 1, 1) := by decide +kernel
theorem dX6_note_9 : decode cX6_note 9 = .ok (.putfield 42, 3) := by decide +kernel
theorem dX6_note_12 : decode cX6_note 12 = .ok (.aload_n 0, 1) := by decide +kernel
theorem dX6_note_13 : decode cX6_note 13 = .ok (.iload_n 2, 1) := by decide +kernel
theorem dX6_note_14 : decode cX6_note 14 = .ok (.putfield 45, 3) := by decide +kernel
theorem dX6_note_17 : decode cX6_note 17 = .ok (.return_, 1) := by decide +kernel
theorem dX6_takeNumber_0 : decode cX6_takeNumber 0 = .ok (.aload_n 0, 1) := by decide +kernel
theorem dX6_takeNumber_1 : decode cX6_takeNumber 1 = .ok (.getfield 61, 3) := by decide +kernel
theorem dX6_takeNumber_4 : decode cX6_takeNumber 4 = .ok (.iconst 2, 1) := by decide +kernel
theorem dX6_takeNumber_5 : decode cX6_takeNumber 5 = .ok (.if_icmp .eq 5, 3) := by decide +kernel
theorem dX6_takeNumber_8 : decode cX6_takeNumber 8 = .ok (.iconst (-1), 1) := by decide +kernel
theorem dX6_takeNumber_9 : decode cX6_takeNumber 9 = .ok (.ireturn, 1) := by decide +kernel
theorem dX6_takeNumber_10 : decode cX6_takeNumber 10 = .ok (.aload_n 0, 1) := by decide +kernel
theorem dX6_takeNumber_11 : decode cX6_takeNumber 11 = .ok (.getfield 157, 3) := by decide +kernel
theorem dX6_takeNumber_14 : decode cX6_takeNumber 14 = .ok (.istore_n 3, 1) := by decide +kernel
theorem dX6_takeNumber_15 : decode cX6_takeNumber 15 = .ok (.iload_n 3, 1) := by decide +kernel
theorem dX6_takeNumber_16 : decode cX6_takeNumber 16 = .ok (.iload_n 1, 1) := by decide +kernel
theorem dX6_takeNumber_17 : decode cX6_takeNumber 17 = .ok (.if_icmp .lt 8, 3) := by decide +kernel
theorem dX6_takeNumber_20 : decode cX6_takeNumber 20 = .ok (.iload_n 3, 1) := by decide +kernel
theorem dX6_takeNumber_21 : decode cX6_takeNumber 21 = .ok (.iload_n 2, 1) := by decide +kernel
theorem dX6_takeNumber_22 : decode cX6_takeNumber 22 = .ok (.if_icmp .le 12, 3) := by decide +kernel
theorem dX6_takeNumber_25 : decode cX6_takeNumber 25 = .ok (.aload_n 0, 1) := by decide +kernel
theorem dX6_takeNumber_26 : decode cX6_takeNumber 26 = .ok (.iconst 2, 1) := by decide +kernel
theorem dX6_takeNumber_27 : decode cX6_takeNumber 27 = .ok (.aload_n 0, 1) := by decide +kernel
theorem dX6_takeNumber_28 : decode cX6_takeNumber 28 = .ok (.getfield 73, 3) := by decide +kernel
theorem dX6_takeNumber_31 : decode cX6_takeNumber 31 = .ok (.invokevirtual 79, 3) := by decide +kernel
theorem dX6_takeNumber_34 : decode cX6_takeNumber 34 = .ok (.aload_n 0, 1) := by decide +kernel
theorem dX6_takeNumber_35 : decode cX6_takeNumber 35 = .ok (.invokevirtual 54, 3) := by decide +kernel
theorem dX6_takeNumber_38 : decode cX6_takeNumber 38 = .ok (.iload_n 3, 1) := by decide +kernel
theorem dX6_takeNumber_39 : decode cX6_takeNumber 39 = .ok (.ireturn, 1) := by decide +kernel
theorem dX6_takeMark_0 : decode cX6_takeMark 0 = .ok (.aload_n 0, 1) := by decide +kernel
theorem dX6_takeMark_1 : decode cX6_takeMark 1 = .ok (.getfield 61, 3) := by decide +kernel
theorem dX6_takeMark_4 : decode cX6_takeMark 4 = .ok (.iconst 3, 1) := by decide +kernel
theorem dX6_takeMark_5 : decode cX6_takeMark 5 = .ok (.if_icmp .eq 5, 3) := by decide +kernel
theorem dX6_takeMark_8 : decode cX6_takeMark 8 = .ok (.iconst 0, 1) := by decide +kernel
theorem dX6_takeMark_9 : decode cX6_takeMark 9 = .ok (.ireturn, 1) := by decide +kernel
theorem dX6_takeMark_10 : decode cX6_takeMark 10 = .ok (.aload_n 0, 1) := by decide +kernel
theorem dX6_takeMark_11 : decode cX6_takeMark 11 = .ok (.invokevirtual 54, 3) := by decide +kernel
theorem dX6_takeMark_14 : decode cX6_takeMark 14 = .ok (.iconst 1, 1) := by decide +kernel
theorem dX6_takeMark_15 : decode cX6_takeMark 15 = .ok (.ireturn, 1) := by decide +kernel
theorem dX6_isWord_0 : decode cX6_isWord 0 = .ok (.aload_n 0, 1) := by decide +kernel
theorem dX6_isWord_1 : decode cX6_isWord 1 = .ok (.getfield 61, 3) := by decide +kernel
theorem dX6_isWord_4 : decode cX6_isWord 4 = .ok (.iconst 1, 1) := by decide +kernel
theorem dX6_isWord_5 : decode cX6_isWord 5 = .ok (.if_icmp .ne 19, 3) := by decide +kernel
theorem dX6_isWord_8 : decode cX6_isWord 8 = .ok (.aload_n 0, 1) := by decide +kernel
theorem dX6_isWord_9 : decode cX6_isWord 9 = .ok (.getfield 39, 3) := by decide +kernel
theorem dX6_isWord_12 : decode cX6_isWord 12 = .ok (.aload_n 0, 1) := by decide +kernel
theorem dX6_isWord_13 : decode cX6_isWord 13 = .ok (.getfield 73, 3) := by decide +kernel
theorem dX6_isWord_16 : decode cX6_isWord 16 = .ok (.isub, 1) := by decide +kernel
theorem dX6_isWord_17 : decode cX6_isWord 17 = .ok (.aload_n 1, 1) := by decide +kernel
theorem dX6_isWord_18 : decode cX6_isWord 18 = .ok (.invokevirtual 160, 3) := by decide +kernel
theorem dX6_isWord_21 : decode cX6_isWord 21 = .ok (.if_icmp .eq 5, 3) := by decide +kernel
theorem dX6_isWord_24 : decode cX6_isWord 24 = .ok (.iconst 0, 1) := by decide +kernel
theorem dX6_isWord_25 : decode cX6_isWord 25 = .ok (.ireturn, 1) := by decide +kernel
theorem dX6_isWord_26 : decode cX6_isWord 26 = .ok (.iconst 0, 1) := by decide +kernel
theorem dX6_isWord_27 : decode cX6_isWord 27 = .ok (.istore_n 2, 1) := by decide +kernel
theorem dX6_isWord_28 : decode cX6_isWord 28 = .ok (.iload_n 2, 1) := by decide +kernel
theorem dX6_isWord_29 : decode cX6_isWord 29 = .ok (.aload_n 1, 1) := by decide +kernel
theorem dX6_isWord_30 : decode cX6_isWord 30 = .ok (.invokevirtual 160, 3) := by decide +kernel
theorem dX6_isWord_33 : decode cX6_isWord 33 = .ok (.if_icmp .ge 30, 3) := by decide +kernel
theorem dX6_isWord_36 : decode cX6_isWord 36 = .ok (.aload_n 0, 1) := by decide +kernel
theorem dX6_isWord_37 : decode cX6_isWord 37 = .ok (.getfield 25, 3) := by decide +kernel
theorem dX6_isWord_40 : decode cX6_isWord 40 = .ok (.aload_n 0, 1) := by decide +kernel
theorem dX6_isWord_41 : decode cX6_isWord 41 = .ok (.getfield 73, 3) := by decide +kernel
theorem dX6_isWord_44 : decode cX6_isWord 44 = .ok (.iload_n 2, 1) := by decide +kernel
theorem dX6_isWord_45 : decode cX6_isWord 45 = .ok (.iadd, 1) := by decide +kernel
theorem dX6_isWord_46 : decode cX6_isWord 46 = .ok (.iaload, 1) := by decide +kernel
theorem dX6_isWord_47 : decode cX6_isWord 47 = .ok (.aload_n 1, 1) := by decide +kernel
theorem dX6_isWord_48 : decode cX6_isWord 48 = .ok (.iload_n 2, 1) := by decide +kernel
theorem dX6_isWord_49 : decode cX6_isWord 49 = .ok (.invokevirtual 163, 3) := by decide +kernel
theorem dX6_isWord_52 : decode cX6_isWord 52 = .ok (.if_icmp .eq 5, 3) := by decide +kernel
theorem dX6_isWord_55 : decode cX6_isWord 55 = .ok (.iconst 0, 1) := by decide +kernel
theorem dX6_isWord_56 : decode cX6_isWord 56 = .ok (.ireturn, 1) := by decide +kernel
theorem dX6_isWord_57 : decode cX6_isWord 57 = .ok (.iinc 2 1, 3) := by decide +kernel
theorem dX6_isWord_60 : decode cX6_isWord 60 = .ok (.goto (-32), 3) := by decide +kernel
theorem dX6_isWord_63 : decode cX6_isWord 63 = .ok (.iconst 1, 1) := by decide +kernel
theorem dX6_isWord_64 : decode cX6_isWord 64 = .ok (.ireturn, 1) := by decide +kernel
theorem dX11_lengthOf_0 : decode cX11_lengthOf 0 = .ok (.lload_n 0, 1) := by decide +kernel
theorem dX11_lengthOf_1 : decode cX11_lengthOf 1 = .ok (.ldc2_w 287, 3) := by decide +kernel
theorem dX11_lengthOf_4 : decode cX11_lengthOf 4 = .ok (.land, 1) := by decide +kernel
theorem dX11_lengthOf_5 : decode cX11_lengthOf 5 = .ok (.l2i, 1) := by decide +kernel
theorem dX11_lengthOf_6 : decode cX11_lengthOf 6 = .ok (.ireturn, 1) := by decide +kernel
theorem dX11_withSign_0 : decode cX11_withSign 0 = .ok (.lload_n 0, 1) := by decide +kernel
theorem dX11_withSign_1 : decode cX11_withSign 1 = .ok (.iload_n 2, 1) := by decide +kernel
theorem dX11_withSign_2 : decode cX11_withSign 2 = .ok (.i2l, 1) := by decide +kernel
theorem dX11_withSign_3 : decode cX11_withSign 3 = .ok (.iconst 4, 1) := by decide +kernel
theorem dX11_withSign_4 : decode cX11_withSign 4 = .ok (.lload_n 0, 1) := by decide +kernel
theorem dX11_withSign_5 : decode cX11_withSign 5 = .ok (.invokestatic 145, 3) := by decide +kernel
theorem dX11_withSign_8 : decode cX11_withSign 8 = .ok (.imul, 1) := by decide +kernel
theorem dX11_withSign_9 : decode cX11_withSign 9 = .ok (.iconst 4, 1) := by decide +kernel
theorem dX11_withSign_10 : decode cX11_withSign 10 = .ok (.iadd, 1) := by decide +kernel
theorem dX11_withSign_11 : decode cX11_withSign 11 = .ok (.lshl, 1) := by decide +kernel
theorem dX11_withSign_12 : decode cX11_withSign 12 = .ok (.lor, 1) := by decide +kernel
theorem dX11_withSign_13 : decode cX11_withSign 13 = .ok (.lconst 1, 1) := by decide +kernel
theorem dX11_withSign_14 : decode cX11_withSign 14 = .ok (.ladd, 1) := by decide +kernel
theorem dX11_withSign_15 : decode cX11_withSign 15 = .ok (.lreturn, 1) := by decide +kernel
theorem fkX_X6_39 {D : va_G} {ad : Nat → Nat} {cA : Nat → ClassId} : FKw (wX D ad cA) RX6 39 6 11 9 0 := ⟨RX6, TX6, rfl, by decide, rfl, inX6, (lw_gi 295 (by decide +kernel) rfl : Cond.fieldLink RX6 39 RX6 (TX6 9).2.1 (TX6 9).2.2.1 ∈ lw_g), rfl⟩
theorem fkX_X6_61 {D : va_G} {ad : Nat → Nat} {cA : Nat → ClassId} : FKw (wX D ad cA) RX6 61 6 11 7 0 := ⟨RX6, TX6, rfl, by decide, rfl, inX6, (lw_gi 293 (by decide +kernel) rfl : Cond.fieldLink RX6 61 RX6 (TX6 7).2.1 (TX6 7).2.2.1 ∈ lw_g), rfl⟩
theorem fkX_X6_157 {D : va_G} {ad : Nat → Nat} {cA : Nat → ClassId} : FKw (wX D ad cA) RX6 157 6 11 10 0 := ⟨RX6, TX6, rfl, by decide, rfl, inX6, (lw_gi 296 (by decide +kernel) rfl : Cond.fieldLink RX6 157 RX6 (TX6 10).2.1 (TX6 10).2.2.1 ∈ lw_g), rfl⟩
theorem fkX_X6_25 {D : va_G} {ad : Nat → Nat} {cA : Nat → ClassId} : FKw (wX D ad cA) RX6 25 6 11 5 2 := ⟨RX6, TX6, rfl, by decide, rfl, inX6, (lw_gi 291 (by decide +kernel) rfl : Cond.fieldLink RX6 25 RX6 (TX6 5).2.1 (TX6 5).2.2.1 ∈ lw_g), rfl⟩
theorem pkX_X6_157 {D : va_G} {ad : Nat → Nat} {cA : Nat → ClassId} : PKw (wX D ad cA) RX6 157 6 11 10 0 (tyX6 10) := ⟨RX6, TX6, tyX6, rfl, by decide, rfl, inX6, (lw_gi 296 (by decide +kernel) rfl : Cond.fieldLink RX6 157 RX6 (TX6 10).2.1 (TX6 10).2.2.1 ∈ lw_g), rfl, tyX6_ok, nmX6, rfl, rfl⟩
theorem fkX_X6_73 {D : va_G} {ad : Nat → Nat} {cA : Nat → ClassId} : FKw (wX D ad cA) RX6 73 6 11 8 0 := ⟨RX6, TX6, rfl, by decide, rfl, inX6, (lw_gi 294 (by decide +kernel) rfl : Cond.fieldLink RX6 73 RX6 (TX6 8).2.1 (TX6 8).2.2.1 ∈ lw_g), rfl⟩
theorem pkX_X6_61 {D : va_G} {ad : Nat → Nat} {cA : Nat → ClassId} : PKw (wX D ad cA) RX6 61 6 11 7 0 (tyX6 7) := ⟨RX6, TX6, tyX6, rfl, by decide, rfl, inX6, (lw_gi 293 (by decide +kernel) rfl : Cond.fieldLink RX6 61 RX6 (TX6 7).2.1 (TX6 7).2.2.1 ∈ lw_g), rfl, tyX6_ok, nmX6, rfl, rfl⟩
theorem fkX_X6_35 {D : va_G} {ad : Nat → Nat} {cA : Nat → ClassId} : FKw (wX D ad cA) RX6 35 6 11 6 0 := ⟨RX6, TX6, rfl, by decide, rfl, inX6, (lw_gi 292 (by decide +kernel) rfl : Cond.fieldLink RX6 35 RX6 (TX6 6).2.1 (TX6 6).2.2.1 ∈ lw_g), rfl⟩
theorem ckX6_167 : CKB RX6 167 yX6_kindOf cX6_kindOf 1 (some .int) 1 := ⟨(lw_gi 588 (by decide +kernel) rfl : Cond.code yX6_kindOf cX6_kindOf 1 (some .int) ∈ lw_g), (lw_gi 120 (by decide +kernel) rfl : Cond.initialized yX6_kindOf.cls ∈ lw_g), by decide +kernel, by decide +kernel, (lw_gi 586 (by decide +kernel) rfl : Cond.methodLink RX6 167 yX6_kindOf ∈ lw_g)⟩
theorem sm_X6_kindOf : Cond.static yX6_kindOf ∈ lw_g := (lw_gi 587 (by decide +kernel) rfl : Cond.static yX6_kindOf ∈ lw_g)
theorem pkX_X6_39 {D : va_G} {ad : Nat → Nat} {cA : Nat → ClassId} : PKw (wX D ad cA) RX6 39 6 11 9 0 (tyX6 9) := ⟨RX6, TX6, tyX6, rfl, by decide, rfl, inX6, (lw_gi 295 (by decide +kernel) rfl : Cond.fieldLink RX6 39 RX6 (TX6 9).2.1 (TX6 9).2.2.1 ∈ lw_g), rfl, tyX6_ok, nmX6, rfl, rfl⟩
theorem pkX_X6_73 {D : va_G} {ad : Nat → Nat} {cA : Nat → ClassId} : PKw (wX D ad cA) RX6 73 6 11 8 0 (tyX6 8) := ⟨RX6, TX6, tyX6, rfl, by decide, rfl, inX6, (lw_gi 294 (by decide +kernel) rfl : Cond.fieldLink RX6 73 RX6 (TX6 8).2.1 (TX6 8).2.2.1 ∈ lw_g), rfl, tyX6_ok, nmX6, rfl, rfl⟩
theorem fkX_X6_42 {D : va_G} {ad : Nat → Nat} {cA : Nat → ClassId} : FKw (wX D ad cA) RX6 42 6 11 3 0 := ⟨RX6, TX6, rfl, by decide, rfl, inX6, (lw_gi 287 (by decide +kernel) rfl : Cond.fieldLink RX6 42 RX6 (TX6 3).2.1 (TX6 3).2.2.1 ∈ lw_g), rfl⟩
theorem pkX_X6_42 {D : va_G} {ad : Nat → Nat} {cA : Nat → ClassId} : PKw (wX D ad cA) RX6 42 6 11 3 0 (tyX6 3) := ⟨RX6, TX6, tyX6, rfl, by decide, rfl, inX6, (lw_gi 287 (by decide +kernel) rfl : Cond.fieldLink RX6 42 RX6 (TX6 3).2.1 (TX6 3).2.2.1 ∈ lw_g), rfl, tyX6_ok, nmX6, rfl, rfl⟩
theorem pkX_X6_45 {D : va_G} {ad : Nat → Nat} {cA : Nat → ClassId} : PKw (wX D ad cA) RX6 45 6 11 4 0 (tyX6 4) := ⟨RX6, TX6, tyX6, rfl, by decide, rfl, inX6, (lw_gi 289 (by decide +kernel) rfl : Cond.fieldLink RX6 45 RX6 (TX6 4).2.1 (TX6 4).2.2.1 ∈ lw_g), rfl, tyX6_ok, nmX6, rfl, rfl⟩
theorem ckX6_79 : CKB RX6 79 yX6_note cX6_note 3 none 2 := ⟨(lw_gi 726 (by decide +kernel) rfl : Cond.code yX6_note cX6_note 3 none ∈ lw_g), (lw_gi 120 (by decide +kernel) rfl : Cond.initialized yX6_note.cls ∈ lw_g), by decide +kernel, by decide +kernel, (lw_gi 723 (by decide +kernel) rfl : Cond.methodLink RX6 79 yX6_note ∈ lw_g)⟩
theorem im_X6_note : Cond.instanceMethod yX6_note ∈ lw_g := (lw_gi 725 (by decide +kernel) rfl : Cond.instanceMethod yX6_note ∈ lw_g)
theorem se_X6_note : Cond.selects RX6 yX6_note yX6_note ∈ lw_g := (lw_gi 6 (by decide +kernel) rfl : Cond.selects RX6 yX6_note yX6_note ∈ lw_g)
theorem ckX6_54 : CKB RX6 54 yX6_advance cX6_advance 3 none 0 := ⟨(lw_gi 585 (by decide +kernel) rfl : Cond.code yX6_advance cX6_advance 3 none ∈ lw_g), (lw_gi 120 (by decide +kernel) rfl : Cond.initialized yX6_advance.cls ∈ lw_g), by decide +kernel, by decide +kernel, (lw_gi 582 (by decide +kernel) rfl : Cond.methodLink RX6 54 yX6_advance ∈ lw_g)⟩
theorem im_X6_advance : Cond.instanceMethod yX6_advance ∈ lw_g := (lw_gi 584 (by decide +kernel) rfl : Cond.instanceMethod yX6_advance ∈ lw_g)
theorem se_X6_advance : Cond.selects RX6 yX6_advance yX6_advance ∈ lw_g := (lw_gi 0 (by decide +kernel) rfl : Cond.selects RX6 yX6_advance yX6_advance ∈ lw_g)
theorem ckX6_160 : CKB RX6 160 yJ0_length_8abf5 cJ0_length_8abf5 1 (some .int) 0 := ⟨(lw_gi 611 (by decide +kernel) rfl : Cond.code yJ0_length_8abf5 cJ0_length_8abf5 1 (some .int) ∈ lw_g), (lw_gi 130 (by decide +kernel) rfl : Cond.initialized yJ0_length_8abf5.cls ∈ lw_g), by decide +kernel, by decide +kernel, (lw_gi 694 (by decide +kernel) rfl : Cond.methodLink RX6 160 yJ0_length_8abf5 ∈ lw_g)⟩
theorem ckX6_163 : CKB RX6 163 yJ0_charAt_5068e cJ0_charAt_5068e 2 (some .char) 1 := ⟨(lw_gi 698 (by decide +kernel) rfl : Cond.code yJ0_charAt_5068e cJ0_charAt_5068e 2 (some .char) ∈ lw_g), (lw_gi 130 (by decide +kernel) rfl : Cond.initialized yJ0_charAt_5068e.cls ∈ lw_g), by decide +kernel, by decide +kernel, (lw_gi 695 (by decide +kernel) rfl : Cond.methodLink RX6 163 yJ0_charAt_5068e ∈ lw_g)⟩
theorem im_J0_charAt_5068e : Cond.instanceMethod yJ0_charAt_5068e ∈ lw_g := (lw_gi 696 (by decide +kernel) rfl : Cond.instanceMethod yJ0_charAt_5068e ∈ lw_g)
theorem se_J0_charAt_5068e : Cond.selects RJ0 yJ0_charAt_5068e yJ0_charAt_5068e ∈ lw_g := (lw_gi 697 (by decide +kernel) rfl : Cond.selects RJ0 yJ0_charAt_5068e yJ0_charAt_5068e ∈ lw_g)
theorem cnX11_287 : Cond.constantLong RX11 287 (15) ∈ lw_g := lw_gi 684 (by decide +kernel) rfl
set_option maxHeartbeats 4000000 in
set_option maxRecDepth 100000 in
theorem x_kindOf {D : va_G} {ad : Nat → Nat} {cA : Nat → ClassId} {X : XT} {z : Int} (hz : inR z) : MetX (wX D ad cA) yX6_kindOf cX6_kindOf 1 (some .int) 0 0 [.int (iI (z))] X (fun r X' => X' = X ∧ ∃ u : Int, r = some (.int (iI u)) ∧ u = kOf z) := by
  unfold inR at hz
  refine MetX.mk (own := RX6) (by decide +kernel) rfl (nle rfl) (fun E C hQ => ?_)
  refine Wx_lv (lv' := [(0, .int (iI (z)))]) rfl ?_
  refine x_iload_n (i := 0) C dX6_kindOf_0 rfl rfl ?_
  refine x_bipush C dX6_kindOf_1 (by decide) ?_
  refine x_icmp_eq (tgt := 12) C dX6_kindOf_3 (by decide) ⟨by omega, by omega⟩ ⟨by omega, by omega⟩ (fun h1 => ?_) (fun h1 => ?_)
  · refine x_iconst C dX6_kindOf_12 ?_
    exact x_iret C hQ dX6_kindOf_13 (⟨rfl, _, rfl, by unfold kOf; (repeat' split) <;> omega⟩)
  · refine x_iload_n (i := 0) C dX6_kindOf_6 rfl rfl ?_
    refine x_bipush C dX6_kindOf_7 (by decide) ?_
    refine x_icmp_ne (tgt := 14) C dX6_kindOf_9 (by decide) ⟨by omega, by omega⟩ ⟨by omega, by omega⟩ (fun h2 => ?_) (fun h2 => ?_)
    · refine x_iload_n (i := 0) C dX6_kindOf_14 rfl rfl ?_
      refine x_bipush C dX6_kindOf_15 (by decide) ?_
      refine x_icmp_lt (tgt := 28) C dX6_kindOf_17 (by decide) ⟨by omega, by omega⟩ ⟨by omega, by omega⟩ (fun h3 => ?_) (fun h3 => ?_)
      · refine x_iload_n (i := 0) C dX6_kindOf_28 rfl rfl ?_
        refine x_bipush C dX6_kindOf_29 (by decide) ?_
        refine x_icmp_lt (tgt := 42) C dX6_kindOf_31 (by decide) ⟨by omega, by omega⟩ ⟨by omega, by omega⟩ (fun h4 => ?_) (fun h4 => ?_)
        · refine x_iload_n (i := 0) C dX6_kindOf_42 rfl rfl ?_
          refine x_bipush C dX6_kindOf_43 (by decide) ?_
          refine x_icmp_ne (tgt := 52) C dX6_kindOf_45 (by decide) ⟨by omega, by omega⟩ ⟨by omega, by omega⟩ (fun h5 => ?_) (fun h5 => ?_)
          · refine x_iconst C dX6_kindOf_52 ?_
            exact x_iret C hQ dX6_kindOf_53 (⟨rfl, _, rfl, by unfold kOf; (repeat' split) <;> omega⟩)
          · refine x_iconst C dX6_kindOf_48 ?_
            refine x_goto (tgt := 53) C dX6_kindOf_49 (by decide) ?_
            exact x_iret C hQ dX6_kindOf_53 (⟨rfl, _, rfl, by unfold kOf; (repeat' split) <;> omega⟩)
        · refine x_iload_n (i := 0) C dX6_kindOf_34 rfl rfl ?_
          refine x_bipush C dX6_kindOf_35 (by decide) ?_
          refine x_icmp_gt (tgt := 42) C dX6_kindOf_37 (by decide) ⟨by omega, by omega⟩ ⟨by omega, by omega⟩ (fun h6 => ?_) (fun h6 => ?_)
          · refine x_iload_n (i := 0) C dX6_kindOf_42 rfl rfl ?_
            refine x_bipush C dX6_kindOf_43 (by decide) ?_
            refine x_icmp_ne (tgt := 52) C dX6_kindOf_45 (by decide) ⟨by omega, by omega⟩ ⟨by omega, by omega⟩ (fun h7 => ?_) (fun h7 => ?_)
            · refine x_iconst C dX6_kindOf_52 ?_
              exact x_iret C hQ dX6_kindOf_53 (⟨rfl, _, rfl, by unfold kOf; (repeat' split) <;> omega⟩)
            · refine x_iconst C dX6_kindOf_48 ?_
              refine x_goto (tgt := 53) C dX6_kindOf_49 (by decide) ?_
              exact x_iret C hQ dX6_kindOf_53 (⟨rfl, _, rfl, by unfold kOf; (repeat' split) <;> omega⟩)
          · refine x_iconst C dX6_kindOf_40 ?_
            exact x_iret C hQ dX6_kindOf_41 (⟨rfl, _, rfl, by unfold kOf; (repeat' split) <;> omega⟩)
      · refine x_iload_n (i := 0) C dX6_kindOf_20 rfl rfl ?_
        refine x_bipush C dX6_kindOf_21 (by decide) ?_
        refine x_icmp_gt (tgt := 28) C dX6_kindOf_23 (by decide) ⟨by omega, by omega⟩ ⟨by omega, by omega⟩ (fun h8 => ?_) (fun h8 => ?_)
        · refine x_iload_n (i := 0) C dX6_kindOf_28 rfl rfl ?_
          refine x_bipush C dX6_kindOf_29 (by decide) ?_
          refine x_icmp_lt (tgt := 42) C dX6_kindOf_31 (by decide) ⟨by omega, by omega⟩ ⟨by omega, by omega⟩ (fun h9 => ?_) (fun h9 => ?_)
          · refine x_iload_n (i := 0) C dX6_kindOf_42 rfl rfl ?_
            refine x_bipush C dX6_kindOf_43 (by decide) ?_
            refine x_icmp_ne (tgt := 52) C dX6_kindOf_45 (by decide) ⟨by omega, by omega⟩ ⟨by omega, by omega⟩ (fun h10 => ?_) (fun h10 => ?_)
            · refine x_iconst C dX6_kindOf_52 ?_
              exact x_iret C hQ dX6_kindOf_53 (⟨rfl, _, rfl, by unfold kOf; (repeat' split) <;> omega⟩)
            · refine x_iconst C dX6_kindOf_48 ?_
              refine x_goto (tgt := 53) C dX6_kindOf_49 (by decide) ?_
              exact x_iret C hQ dX6_kindOf_53 (⟨rfl, _, rfl, by unfold kOf; (repeat' split) <;> omega⟩)
          · refine x_iload_n (i := 0) C dX6_kindOf_34 rfl rfl ?_
            refine x_bipush C dX6_kindOf_35 (by decide) ?_
            refine x_icmp_gt (tgt := 42) C dX6_kindOf_37 (by decide) ⟨by omega, by omega⟩ ⟨by omega, by omega⟩ (fun h11 => ?_) (fun h11 => ?_)
            · refine x_iload_n (i := 0) C dX6_kindOf_42 rfl rfl ?_
              refine x_bipush C dX6_kindOf_43 (by decide) ?_
              refine x_icmp_ne (tgt := 52) C dX6_kindOf_45 (by decide) ⟨by omega, by omega⟩ ⟨by omega, by omega⟩ (fun h12 => ?_) (fun h12 => ?_)
              · refine x_iconst C dX6_kindOf_52 ?_
                exact x_iret C hQ dX6_kindOf_53 (⟨rfl, _, rfl, by unfold kOf; (repeat' split) <;> omega⟩)
              · refine x_iconst C dX6_kindOf_48 ?_
                refine x_goto (tgt := 53) C dX6_kindOf_49 (by decide) ?_
                exact x_iret C hQ dX6_kindOf_53 (⟨rfl, _, rfl, by unfold kOf; (repeat' split) <;> omega⟩)
            · refine x_iconst C dX6_kindOf_40 ?_
              exact x_iret C hQ dX6_kindOf_41 (⟨rfl, _, rfl, by unfold kOf; (repeat' split) <;> omega⟩)
        · refine x_iconst C dX6_kindOf_26 ?_
          exact x_iret C hQ dX6_kindOf_27 (⟨rfl, _, rfl, by unfold kOf; (repeat' split) <;> omega⟩)
    · refine x_iconst C dX6_kindOf_12 ?_
      exact x_iret C hQ dX6_kindOf_13 (⟨rfl, _, rfl, by unfold kOf; (repeat' split) <;> omega⟩)
set_option maxHeartbeats 4000000 in
set_option maxRecDepth 100000 in
theorem c_ad3 {D : va_G} {ad : Nat → Nat} {cA : Nat → ClassId} {X0 : XT} {b : Nat → Int} {N : Nat} {p : Nat} (hp : p ≤ N) (hT0 : TPX b N X0) {q : Nat} (hq : q = tS b N p) {E : ET} (C : CX E (wX D ad cA) cX6_advance 3 RX6 none { frames := 1, cells := 0, slots := 0, locals := 20 }) (hQ : EQ E (wX D ad cA) (fun r X1 => r = none ∧ HG vX X1 ∧ FR mdAD X0 X1 ∧ TKX b N (tS b N p) X1)) : ∀ (n : Nat) (j : Nat) (X : XT), ((602 - j : Nat) : Int) < n → HG vX X → FR mdAD X0 X → X.1 21 8 = (q : Int) → X.1 21 7 = tK b N q → X.1 21 9 = (tE b N q : Int) → X.1 21 10 = vP b q j → ((tK b N q = 2 ∧ q + j ≤ tE b N q) ∨ (j = 0 ∧ tK b N q ≠ 2)) → Wx E (wX D ad cA) 3 (PX (wX D ad cA) X) 211 [(2, .int (iI ((q : Int) + j))), (0, .ref 21)] [] := by
  intro n
  induction n with
  | zero => intro j X hn hH hF hs hk hn hv hj; exfalso; omega
  | succ n ih =>
    intro j X hn hH hF hs hk hn hv hj
    have q2 := tS_bd b N p hp
    have e2 := tE_bd b N q (by omega)
    have k2 := tK_bd b N q
    have n6 := hT0.2.2.1
    refine x_iload_n (i := 2) C dX6_advance_211 rfl rfl ?_
    refine x_aload_n (i := 0) C dX6_advance_212 rfl rfl ?_
    refine x_getI C fkX_X6_39 (nlt rfl) rfl dX6_advance_213 ?_
    refine x_gen (fun v1 ev1 => ?_)
    have qv1 : ((-2147483648) : Int) ≤ v1 ∧ v1 ≤ (2147483647 : Int) := by
      rw [ev1]
      exact hH.rF (k := 21) (i := 9) rfl rfl
    refine x_icmp_ge (tgt := 254) C dX6_advance_216 (by decide) ⟨by omega, by omega⟩ ⟨by omega, by omega⟩ (fun h2 => ?_) (fun h2 => ?_)
    · exact x_vret C hQ dX6_advance_254 (⟨rfl, hH, hF, by rw [← hq]; exact ⟨hs, hk, hn, by rw [hv]; unfold tV; (split); (rw [show j = tE b N q - q by omega]); (rw [show j = 0 by omega]; rfl), by omega⟩⟩)
    · refine x_aload_n (i := 0) C dX6_advance_219 rfl rfl ?_
      refine x_getI C fkX_X6_61 (nlt rfl) rfl dX6_advance_220 ?_
      refine x_gen (fun v3 ev3 => ?_)
      have qv3 : ((-2147483648) : Int) ≤ v3 ∧ v3 ≤ (2147483647 : Int) := by
        rw [ev3]
        exact hH.rF (k := 21) (i := 7) rfl rfl
      refine x_iconst C dX6_advance_223 ?_
      refine x_icmp_ne (tgt := 254) C dX6_advance_224 (by decide) ⟨by omega, by omega⟩ ⟨by omega, by omega⟩ (fun h4 => ?_) (fun h4 => ?_)
      · exact x_vret C hQ dX6_advance_254 (⟨rfl, hH, hF, by rw [← hq]; exact ⟨hs, hk, hn, by rw [hv]; unfold tV; (split); (rw [show j = tE b N q - q by omega]); (rw [show j = 0 by omega]; rfl), by omega⟩⟩)
      · refine x_aload_n (i := 0) C dX6_advance_227 rfl rfl ?_
        refine x_bipush C dX6_advance_228 (by decide) ?_
        refine x_aload_n (i := 0) C dX6_advance_230 rfl rfl ?_
        refine x_getI C fkX_X6_157 (nlt rfl) rfl dX6_advance_231 ?_
        refine x_gen (fun v5 ev5 => ?_)
        have qv5 : ((-2147483648) : Int) ≤ v5 ∧ v5 ≤ (2147483647 : Int) := by
          rw [ev5]
          exact hH.rF (k := 21) (i := 10) rfl rfl
        refine x_imul C dX6_advance_234 ?_
        refine x_aload_n (i := 0) C dX6_advance_235 rfl rfl ?_
        refine x_getRs (r := 2) C fkX_X6_25 (nlt rfl) rfl (hT0.fr hF rfl).1 dX6_advance_236 ?_
        refine x_iload_n (i := 2) C dX6_advance_239 rfl rfl ?_
        refine x_iald C (nlt rfl) rfl rfl (nle rfl) (by omega) (by omega) dX6_advance_240 ?_
        refine x_gen (fun v6 ev6 => ?_)
        have qv6 : (0 : Int) ≤ v6 ∧ v6 ≤ (255 : Int) := by
          rw [ev6]
          exact hH.rA (k := 2) (n := 600) (p := (0, 255)) (nlt rfl) rfl (by decide +kernel) (by omega)
        have tv6 : v6 = b ((q : Int) + j).toNat := by rw [ev6]; exact (hT0.fr hF rfl).2.2.2 _ (by omega)
        refine x_iadd C dX6_advance_241 ?_
        refine x_bipush C dX6_advance_242 (by decide) ?_
        refine x_isub C dX6_advance_244 ?_
        have hk2 : tK b N q = 2 := by omega
        have k3 := tK_2 hk2
        have d0 := kOf_dig ((tE_in b N q (q + j) (.inr k3.1) (by omega) (by omega)).trans k3.1)
        have tt : b ((q : Int) + j).toNat = b (q + j) := by congr 1
        have vj : 0 ≤ vP b q j ∧ vP b q j ≤ 9 := by
          rcases (show j = 0 ∨ j = 1 by omega) with rfl | rfl
          · exact ⟨Int.le_refl _, by show (0 : Int) ≤ 9; decide⟩
          · exact vP_bd (fun _ _ _ => trivial) (kOf_dig ((tE_in b N q q (.inr k3.1) (by omega) (by omega)).trans k3.1))
        refine x_putI C pkX_X6_157 (nlt rfl) rfl dX6_advance_245 ?_
        refine x_gX (fun Yy7 eYy7 => ?_)
        have hHy7 : HG vX Yy7 := by
          rw [eYy7]
          exact hg_wF hH (p := ((-2147483648), 2147483647)) rfl ⟨by omega, by omega⟩
        have hFy7 : FR mdAD X0 Yy7 := by
          rw [eYy7]
          exact FR.upI hF (rfl)
        replace eYy7 : Yy7 = upI X 21 10 (((10 * v5) + v6) - 48) := eYy7
        refine x_iinc (lv' := [(2, .int (iI ((q : Int) + j + 1))), (0, .ref 21)]) C dX6_advance_248 rfl (nlt rfl) rfl ?_
        refine x_goto (tgt := 211) C dX6_advance_251 (by decide) ?_
        refine Wx_pick [2, 0] ?_
        refine Wx_lv (lv' := [(2, .int (iI ((q : Int) + j + 1))), (0, .ref 21)]) rfl ?_
        have hk2 : tK b N q = 2 := by omega
        have k3 := tK_2 hk2
        have j1 : j < 2 := by omega
        refine ih (j + 1) _ (by omega) hHy7 hFy7 (by rw [eYy7, upI_ne (by decide)]; exact hs) (by rw [eYy7, upI_ne (by decide)]; exact hk) (by rw [eYy7, upI_ne (by decide)]; exact hn) (by rw [eYy7, upI_at]; show _ = 10 * vP b q j + b (q + j) - 48; omega) (by omega)
set_option maxHeartbeats 4000000 in
set_option maxRecDepth 100000 in
theorem c_ad2 {D : va_G} {ad : Nat → Nat} {cA : Nat → ClassId} {X0 : XT} {b : Nat → Int} {N : Nat} {p : Nat} (hp : p ≤ N) (hT0 : TPX b N X0) {q : Nat} (hq : q = tS b N p) {ro : Int} (r0 : 0 ≤ ro) (r1 : ro ≤ 1) {E : ET} (C : CX E (wX D ad cA) cX6_advance 3 RX6 none { frames := 1, cells := 0, slots := 0, locals := 20 }) (hQ : EQ E (wX D ad cA) (fun r X1 => r = none ∧ HG vX X1 ∧ FR mdAD X0 X1 ∧ TKX b N (tS b N p) X1)) : ∀ (n : Nat) (r : Nat) (X : XT), ((N + 1 - r : Nat) : Int) < n → HG vX X → FR mdAD X0 X → X.1 21 8 = (q : Int) → X.1 21 7 = tC b N q → X.1 21 9 = (r : Int) → ((ro = 1 ∧ (tC b N q = 1 ∨ tC b N q = 2) ∧ q < N ∧ q + 1 ≤ r ∧ r ≤ N ∧ (∀ i, q + 1 ≤ i → i < r → isK b (tC b N q) i = true)) ∨ (ro = 0 ∧ (r : Nat) = tE b N q)) → Wx E (wX D ad cA) 3 (PX (wX D ad cA) X) 128 [(1, .int (iI (ro))), (0, .ref 21)] [] := by
  intro n
  induction n with
  | zero => intro r X hn hH hF hs hk hn hr; exfalso; omega
  | succ n ih =>
    intro r X hn hH hF hs hk hn hr
    have q2 := tS_bd b N p hp
    have e2 := tE_bd b N q (by omega)
    have k2 := tK_bd b N q
    have n6 := hT0.2.2.1
    have r2 : r ≤ N := by rcases hr with hh | hh <;> omega
    have c2 := kOf_bd (b q)
    have c3 : 0 ≤ tC b N q ∧ tC b N q ≤ 5 := by (unfold tC; split <;> omega)
    refine x_iload_n (i := 1) C dX6_advance_128 rfl rfl ?_
    refine x_if_eq (tgt := 175) C dX6_advance_129 (by decide) ⟨by omega, by omega⟩ (fun h1 => ?_) (fun h1 => ?_)
    · have er : (r : Nat) = tE b N q := by
        rcases hr with hh | hh
        · unfold tE
          rw [if_pos hh.2.2.1, if_pos hh.2.1]
          refine (runTo_eq (N - (q + 1)) (q + 1) r hh.2.2.2.1 (by omega) hh.2.2.2.2.2 ?_).symm
          first | (left; omega) | (right; refine decide_eq_false (fun hb => ?_); omega)
        · exact hh.2
      refine x_aload_n (i := 0) C dX6_advance_175 rfl rfl ?_
      refine x_getI C fkX_X6_61 (nlt rfl) rfl dX6_advance_176 ?_
      refine x_gen (fun v2 ev2 => ?_)
      have qv2 : ((-2147483648) : Int) ≤ v2 ∧ v2 ≤ (2147483647 : Int) := by
        rw [ev2]
        exact hH.rF (k := 21) (i := 7) rfl rfl
      refine x_iconst C dX6_advance_179 ?_
      refine x_icmp_ne (tgt := 201) C dX6_advance_180 (by decide) ⟨by omega, by omega⟩ ⟨by omega, by omega⟩ (fun h3 => ?_) (fun h3 => ?_)
      · refine x_aload_n (i := 0) C dX6_advance_201 rfl rfl ?_
        refine x_iconst C dX6_advance_202 ?_
        refine x_putI C pkX_X6_157 (nlt rfl) rfl dX6_advance_203 ?_
        refine x_gX (fun Yy4 eYy4 => ?_)
        have hHy4 : HG vX Yy4 := by
          rw [eYy4]
          exact hg_wF hH (p := ((-2147483648), 2147483647)) rfl ⟨by omega, by omega⟩
        have hFy4 : FR mdAD X0 Yy4 := by
          rw [eYy4]
          exact FR.upI hF (rfl)
        replace eYy4 : Yy4 = upI X 21 10 (0) := eYy4
        refine x_aload_n (i := 0) C dX6_advance_206 rfl rfl ?_
        refine x_getI C fkX_X6_73 (nlt rfl) rfl dX6_advance_207 ?_
        refine x_gen (fun v5 ev5 => ?_)
        have qv5 : ((-2147483648) : Int) ≤ v5 ∧ v5 ≤ (2147483647 : Int) := by
          rw [ev5]
          exact hHy4.rF (k := 21) (i := 8) rfl rfl
        have kv5 : v5 = X.1 21 8 := by rw [ev5, eYy4, upI_ne (by decide)]
        refine x_istore_n (i := 2) (lv' := [(2, .int (iI (v5))), (1, .int (iI (ro))), (0, .ref 21)]) C dX6_advance_210 rfl (nlt rfl) rfl ?_
        have tkk : tK b N q = tC b N q := by unfold tK; rw [if_neg (by omega)]
        rw [show v5 = (q : Int) + ((0 : Nat) : Int) by omega]
        refine Wx_pick [2, 0] ?_
        refine Wx_lv (lv' := [(2, .int (iI ((q : Int) + (0 : Nat)))), (0, .ref 21)]) rfl ?_
        exact c_ad3 hp hT0 hq C hQ 603 0 _ (by omega) hHy4 hFy4 (by rw [eYy4, upI_ne (by decide)]; omega) (by rw [eYy4, upI_ne (by decide)]; omega) (by rw [eYy4, upI_ne (by decide)]; omega) (by rw [eYy4, upI_at]; rfl) (by omega)
      · refine x_aload_n (i := 0) C dX6_advance_183 rfl rfl ?_
        refine x_getI C fkX_X6_39 (nlt rfl) rfl dX6_advance_184 ?_
        refine x_gen (fun v6 ev6 => ?_)
        have qv6 : ((-2147483648) : Int) ≤ v6 ∧ v6 ≤ (2147483647 : Int) := by
          rw [ev6]
          exact hH.rF (k := 21) (i := 9) rfl rfl
        refine x_aload_n (i := 0) C dX6_advance_187 rfl rfl ?_
        refine x_getI C fkX_X6_73 (nlt rfl) rfl dX6_advance_188 ?_
        refine x_gen (fun v7 ev7 => ?_)
        have qv7 : ((-2147483648) : Int) ≤ v7 ∧ v7 ≤ (2147483647 : Int) := by
          rw [ev7]
          exact hH.rF (k := 21) (i := 8) rfl rfl
        refine x_isub C dX6_advance_191 ?_
        refine x_iconst C dX6_advance_192 ?_
        refine x_icmp_le (tgt := 201) C dX6_advance_193 (by decide) ⟨by omega, by omega⟩ ⟨by omega, by omega⟩ (fun h8 => ?_) (fun h8 => ?_)
        · refine x_aload_n (i := 0) C dX6_advance_201 rfl rfl ?_
          refine x_iconst C dX6_advance_202 ?_
          refine x_putI C pkX_X6_157 (nlt rfl) rfl dX6_advance_203 ?_
          refine x_gX (fun Yy9 eYy9 => ?_)
          have hHy9 : HG vX Yy9 := by
            rw [eYy9]
            exact hg_wF hH (p := ((-2147483648), 2147483647)) rfl ⟨by omega, by omega⟩
          have hFy9 : FR mdAD X0 Yy9 := by
            rw [eYy9]
            exact FR.upI hF (rfl)
          replace eYy9 : Yy9 = upI X 21 10 (0) := eYy9
          refine x_aload_n (i := 0) C dX6_advance_206 rfl rfl ?_
          refine x_getI C fkX_X6_73 (nlt rfl) rfl dX6_advance_207 ?_
          refine x_gen (fun v10 ev10 => ?_)
          have qv10 : ((-2147483648) : Int) ≤ v10 ∧ v10 ≤ (2147483647 : Int) := by
            rw [ev10]
            exact hHy9.rF (k := 21) (i := 8) rfl rfl
          have kv10 : v10 = X.1 21 8 := by rw [ev10, eYy9, upI_ne (by decide)]
          refine x_istore_n (i := 2) (lv' := [(2, .int (iI (v10))), (1, .int (iI (ro))), (0, .ref 21)]) C dX6_advance_210 rfl (nlt rfl) rfl ?_
          have tkk : tK b N q = tC b N q := by unfold tK; rw [if_neg (by omega)]
          rw [show v10 = (q : Int) + ((0 : Nat) : Int) by omega]
          refine Wx_pick [2, 0] ?_
          refine Wx_lv (lv' := [(2, .int (iI ((q : Int) + (0 : Nat)))), (0, .ref 21)]) rfl ?_
          exact c_ad3 hp hT0 hq C hQ 603 0 _ (by omega) hHy9 hFy9 (by rw [eYy9, upI_ne (by decide)]; omega) (by rw [eYy9, upI_ne (by decide)]; omega) (by rw [eYy9, upI_ne (by decide)]; omega) (by rw [eYy9, upI_at]; rfl) (by omega)
        · refine x_aload_n (i := 0) C dX6_advance_196 rfl rfl ?_
          refine x_iconst C dX6_advance_197 ?_
          refine x_putI C pkX_X6_61 (nlt rfl) rfl dX6_advance_198 ?_
          refine x_gX (fun Yy11 eYy11 => ?_)
          have hHy11 : HG vX Yy11 := by
            rw [eYy11]
            exact hg_wF hH (p := ((-2147483648), 2147483647)) rfl ⟨by omega, by omega⟩
          have hFy11 : FR mdAD X0 Yy11 := by
            rw [eYy11]
            exact FR.upI hF (rfl)
          replace eYy11 : Yy11 = upI X 21 7 (4) := eYy11
          refine x_aload_n (i := 0) C dX6_advance_201 rfl rfl ?_
          refine x_iconst C dX6_advance_202 ?_
          refine x_putI C pkX_X6_157 (nlt rfl) rfl dX6_advance_203 ?_
          refine x_gX (fun Yy12 eYy12 => ?_)
          have hHy12 : HG vX Yy12 := by
            rw [eYy12]
            exact hg_wF hHy11 (p := ((-2147483648), 2147483647)) rfl ⟨by omega, by omega⟩
          have hFy12 : FR mdAD X0 Yy12 := by
            rw [eYy12]
            exact FR.upI hFy11 (rfl)
          replace eYy12 : Yy12 = upI Yy11 21 10 (0) := eYy12
          refine x_aload_n (i := 0) C dX6_advance_206 rfl rfl ?_
          refine x_getI C fkX_X6_73 (nlt rfl) rfl dX6_advance_207 ?_
          refine x_gen (fun v13 ev13 => ?_)
          have qv13 : ((-2147483648) : Int) ≤ v13 ∧ v13 ≤ (2147483647 : Int) := by
            rw [ev13]
            exact hHy12.rF (k := 21) (i := 8) rfl rfl
          have kv13 : v13 = X.1 21 8 := by rw [ev13, eYy12, upI_ne (by decide), eYy11, upI_ne (by decide)]
          refine x_istore_n (i := 2) (lv' := [(2, .int (iI (v13))), (1, .int (iI (ro))), (0, .ref 21)]) C dX6_advance_210 rfl (nlt rfl) rfl ?_
          have tkk : tK b N q = 4 := by unfold tK; rw [if_pos ⟨by omega, by omega⟩]
          rw [show v13 = (q : Int) + ((0 : Nat) : Int) by omega]
          refine Wx_pick [2, 0] ?_
          refine Wx_lv (lv' := [(2, .int (iI ((q : Int) + (0 : Nat)))), (0, .ref 21)]) rfl ?_
          exact c_ad3 hp hT0 hq C hQ 603 0 _ (by omega) hHy12 hFy12 (by rw [eYy12, upI_ne (by decide), eYy11, upI_ne (by decide)]; omega) (by rw [eYy12, upI_ne (by decide), eYy11, upI_at]; omega) (by rw [eYy12, upI_ne (by decide), eYy11, upI_ne (by decide)]; omega) (by rw [eYy12, upI_at]; rfl) (by omega)
    · have hh : ro = 1 ∧ (tC b N q = 1 ∨ tC b N q = 2) ∧ q < N ∧ q + 1 ≤ r ∧ r ≤ N ∧ (∀ i, q + 1 ≤ i → i < r → isK b (tC b N q) i = true) := hr.elim id (fun g => by omega)
      refine x_aload_n (i := 0) C dX6_advance_132 rfl rfl ?_
      refine x_getI C fkX_X6_39 (nlt rfl) rfl dX6_advance_133 ?_
      refine x_gen (fun v14 ev14 => ?_)
      have qv14 : ((-2147483648) : Int) ≤ v14 ∧ v14 ≤ (2147483647 : Int) := by
        rw [ev14]
        exact hH.rF (k := 21) (i := 9) rfl rfl
      refine x_aload_n (i := 0) C dX6_advance_136 rfl rfl ?_
      refine x_getI C fkX_X6_35 (nlt rfl) rfl dX6_advance_137 ?_
      refine x_gen (fun v15 ev15 => ?_)
      have qv15 : ((-2147483648) : Int) ≤ v15 ∧ v15 ≤ (2147483647 : Int) := by
        rw [ev15]
        exact hH.rF (k := 21) (i := 6) rfl rfl
      have nv15 : v15 = (N : Int) := by rw [ev15]; exact (hT0.fr hF rfl).2.1
      refine x_icmp_ge (tgt := 175) C dX6_advance_140 (by decide) ⟨by omega, by omega⟩ ⟨by omega, by omega⟩ (fun h16 => ?_) (fun h16 => ?_)
      · have er : (r : Nat) = tE b N q := by
          rcases hr with hh | hh
          · unfold tE
            rw [if_pos hh.2.2.1, if_pos hh.2.1]
            refine (runTo_eq (N - (q + 1)) (q + 1) r hh.2.2.2.1 (by omega) hh.2.2.2.2.2 ?_).symm
            first | (left; omega) | (right; refine decide_eq_false (fun hb => ?_); omega)
          · exact hh.2
        refine x_aload_n (i := 0) C dX6_advance_175 rfl rfl ?_
        refine x_getI C fkX_X6_61 (nlt rfl) rfl dX6_advance_176 ?_
        refine x_gen (fun v17 ev17 => ?_)
        have qv17 : ((-2147483648) : Int) ≤ v17 ∧ v17 ≤ (2147483647 : Int) := by
          rw [ev17]
          exact hH.rF (k := 21) (i := 7) rfl rfl
        refine x_iconst C dX6_advance_179 ?_
        refine x_icmp_ne (tgt := 201) C dX6_advance_180 (by decide) ⟨by omega, by omega⟩ ⟨by omega, by omega⟩ (fun h18 => ?_) (fun h18 => ?_)
        · refine x_aload_n (i := 0) C dX6_advance_201 rfl rfl ?_
          refine x_iconst C dX6_advance_202 ?_
          refine x_putI C pkX_X6_157 (nlt rfl) rfl dX6_advance_203 ?_
          refine x_gX (fun Yy19 eYy19 => ?_)
          have hHy19 : HG vX Yy19 := by
            rw [eYy19]
            exact hg_wF hH (p := ((-2147483648), 2147483647)) rfl ⟨by omega, by omega⟩
          have hFy19 : FR mdAD X0 Yy19 := by
            rw [eYy19]
            exact FR.upI hF (rfl)
          replace eYy19 : Yy19 = upI X 21 10 (0) := eYy19
          refine x_aload_n (i := 0) C dX6_advance_206 rfl rfl ?_
          refine x_getI C fkX_X6_73 (nlt rfl) rfl dX6_advance_207 ?_
          refine x_gen (fun v20 ev20 => ?_)
          have qv20 : ((-2147483648) : Int) ≤ v20 ∧ v20 ≤ (2147483647 : Int) := by
            rw [ev20]
            exact hHy19.rF (k := 21) (i := 8) rfl rfl
          have kv20 : v20 = X.1 21 8 := by rw [ev20, eYy19, upI_ne (by decide)]
          refine x_istore_n (i := 2) (lv' := [(2, .int (iI (v20))), (1, .int (iI (ro))), (0, .ref 21)]) C dX6_advance_210 rfl (nlt rfl) rfl ?_
          have tkk : tK b N q = tC b N q := by unfold tK; rw [if_neg (by omega)]
          rw [show v20 = (q : Int) + ((0 : Nat) : Int) by omega]
          refine Wx_pick [2, 0] ?_
          refine Wx_lv (lv' := [(2, .int (iI ((q : Int) + (0 : Nat)))), (0, .ref 21)]) rfl ?_
          exact c_ad3 hp hT0 hq C hQ 603 0 _ (by omega) hHy19 hFy19 (by rw [eYy19, upI_ne (by decide)]; omega) (by rw [eYy19, upI_ne (by decide)]; omega) (by rw [eYy19, upI_ne (by decide)]; omega) (by rw [eYy19, upI_at]; rfl) (by omega)
        · refine x_aload_n (i := 0) C dX6_advance_183 rfl rfl ?_
          refine x_getI C fkX_X6_39 (nlt rfl) rfl dX6_advance_184 ?_
          refine x_gen (fun v21 ev21 => ?_)
          have qv21 : ((-2147483648) : Int) ≤ v21 ∧ v21 ≤ (2147483647 : Int) := by
            rw [ev21]
            exact hH.rF (k := 21) (i := 9) rfl rfl
          refine x_aload_n (i := 0) C dX6_advance_187 rfl rfl ?_
          refine x_getI C fkX_X6_73 (nlt rfl) rfl dX6_advance_188 ?_
          refine x_gen (fun v22 ev22 => ?_)
          have qv22 : ((-2147483648) : Int) ≤ v22 ∧ v22 ≤ (2147483647 : Int) := by
            rw [ev22]
            exact hH.rF (k := 21) (i := 8) rfl rfl
          refine x_isub C dX6_advance_191 ?_
          refine x_iconst C dX6_advance_192 ?_
          refine x_icmp_le (tgt := 201) C dX6_advance_193 (by decide) ⟨by omega, by omega⟩ ⟨by omega, by omega⟩ (fun h23 => ?_) (fun h23 => ?_)
          · refine x_aload_n (i := 0) C dX6_advance_201 rfl rfl ?_
            refine x_iconst C dX6_advance_202 ?_
            refine x_putI C pkX_X6_157 (nlt rfl) rfl dX6_advance_203 ?_
            refine x_gX (fun Yy24 eYy24 => ?_)
            have hHy24 : HG vX Yy24 := by
              rw [eYy24]
              exact hg_wF hH (p := ((-2147483648), 2147483647)) rfl ⟨by omega, by omega⟩
            have hFy24 : FR mdAD X0 Yy24 := by
              rw [eYy24]
              exact FR.upI hF (rfl)
            replace eYy24 : Yy24 = upI X 21 10 (0) := eYy24
            refine x_aload_n (i := 0) C dX6_advance_206 rfl rfl ?_
            refine x_getI C fkX_X6_73 (nlt rfl) rfl dX6_advance_207 ?_
            refine x_gen (fun v25 ev25 => ?_)
            have qv25 : ((-2147483648) : Int) ≤ v25 ∧ v25 ≤ (2147483647 : Int) := by
              rw [ev25]
              exact hHy24.rF (k := 21) (i := 8) rfl rfl
            have kv25 : v25 = X.1 21 8 := by rw [ev25, eYy24, upI_ne (by decide)]
            refine x_istore_n (i := 2) (lv' := [(2, .int (iI (v25))), (1, .int (iI (ro))), (0, .ref 21)]) C dX6_advance_210 rfl (nlt rfl) rfl ?_
            have tkk : tK b N q = tC b N q := by unfold tK; rw [if_neg (by omega)]
            rw [show v25 = (q : Int) + ((0 : Nat) : Int) by omega]
            refine Wx_pick [2, 0] ?_
            refine Wx_lv (lv' := [(2, .int (iI ((q : Int) + (0 : Nat)))), (0, .ref 21)]) rfl ?_
            exact c_ad3 hp hT0 hq C hQ 603 0 _ (by omega) hHy24 hFy24 (by rw [eYy24, upI_ne (by decide)]; omega) (by rw [eYy24, upI_ne (by decide)]; omega) (by rw [eYy24, upI_ne (by decide)]; omega) (by rw [eYy24, upI_at]; rfl) (by omega)
          · refine x_aload_n (i := 0) C dX6_advance_196 rfl rfl ?_
            refine x_iconst C dX6_advance_197 ?_
            refine x_putI C pkX_X6_61 (nlt rfl) rfl dX6_advance_198 ?_
            refine x_gX (fun Yy26 eYy26 => ?_)
            have hHy26 : HG vX Yy26 := by
              rw [eYy26]
              exact hg_wF hH (p := ((-2147483648), 2147483647)) rfl ⟨by omega, by omega⟩
            have hFy26 : FR mdAD X0 Yy26 := by
              rw [eYy26]
              exact FR.upI hF (rfl)
            replace eYy26 : Yy26 = upI X 21 7 (4) := eYy26
            refine x_aload_n (i := 0) C dX6_advance_201 rfl rfl ?_
            refine x_iconst C dX6_advance_202 ?_
            refine x_putI C pkX_X6_157 (nlt rfl) rfl dX6_advance_203 ?_
            refine x_gX (fun Yy27 eYy27 => ?_)
            have hHy27 : HG vX Yy27 := by
              rw [eYy27]
              exact hg_wF hHy26 (p := ((-2147483648), 2147483647)) rfl ⟨by omega, by omega⟩
            have hFy27 : FR mdAD X0 Yy27 := by
              rw [eYy27]
              exact FR.upI hFy26 (rfl)
            replace eYy27 : Yy27 = upI Yy26 21 10 (0) := eYy27
            refine x_aload_n (i := 0) C dX6_advance_206 rfl rfl ?_
            refine x_getI C fkX_X6_73 (nlt rfl) rfl dX6_advance_207 ?_
            refine x_gen (fun v28 ev28 => ?_)
            have qv28 : ((-2147483648) : Int) ≤ v28 ∧ v28 ≤ (2147483647 : Int) := by
              rw [ev28]
              exact hHy27.rF (k := 21) (i := 8) rfl rfl
            have kv28 : v28 = X.1 21 8 := by rw [ev28, eYy27, upI_ne (by decide), eYy26, upI_ne (by decide)]
            refine x_istore_n (i := 2) (lv' := [(2, .int (iI (v28))), (1, .int (iI (ro))), (0, .ref 21)]) C dX6_advance_210 rfl (nlt rfl) rfl ?_
            have tkk : tK b N q = 4 := by unfold tK; rw [if_pos ⟨by omega, by omega⟩]
            rw [show v28 = (q : Int) + ((0 : Nat) : Int) by omega]
            refine Wx_pick [2, 0] ?_
            refine Wx_lv (lv' := [(2, .int (iI ((q : Int) + (0 : Nat)))), (0, .ref 21)]) rfl ?_
            exact c_ad3 hp hT0 hq C hQ 603 0 _ (by omega) hHy27 hFy27 (by rw [eYy27, upI_ne (by decide), eYy26, upI_ne (by decide)]; omega) (by rw [eYy27, upI_ne (by decide), eYy26, upI_at]; omega) (by rw [eYy27, upI_ne (by decide), eYy26, upI_ne (by decide)]; omega) (by rw [eYy27, upI_at]; rfl) (by omega)
      · refine x_aload_n (i := 0) C dX6_advance_143 rfl rfl ?_
        refine x_getRs (r := 2) C fkX_X6_25 (nlt rfl) rfl (hT0.fr hF rfl).1 dX6_advance_144 ?_
        refine x_aload_n (i := 0) C dX6_advance_147 rfl rfl ?_
        refine x_getI C fkX_X6_39 (nlt rfl) rfl dX6_advance_148 ?_
        refine x_gen (fun v29 ev29 => ?_)
        have qv29 : ((-2147483648) : Int) ≤ v29 ∧ v29 ≤ (2147483647 : Int) := by
          rw [ev29]
          exact hH.rF (k := 21) (i := 9) rfl rfl
        refine x_iald C (nlt rfl) rfl rfl (nle rfl) (by omega) (by omega) dX6_advance_151 ?_
        refine x_gen (fun v30 ev30 => ?_)
        have qv30 : (0 : Int) ≤ v30 ∧ v30 ≤ (255 : Int) := by
          rw [ev30]
          exact hH.rA (k := 2) (n := 600) (p := (0, 255)) (nlt rfl) rfl (by decide +kernel) (by omega)
        have tv30 : v30 = b (v29).toNat := by rw [ev30]; exact (hT0.fr hF rfl).2.2.2 _ (by omega)
        refine x_callS (As := [.int (iI (v30))]) C (by exact (x_kindOf (z := v30) ⟨by omega, by omega⟩)) ckX6_167 sm_X6_kindOf rfl rfl (nle rfl) (by exact ⟨nle rfl, nle rfl⟩) dX6_advance_152 ?_
        rintro _ Xv31 ⟨hxv31, v31, rfl, ev31⟩
        rw [hxv31]
        have bv31 := kOf_bd (v30)
        rw [← ev31] at bv31
        refine Wx_st (st' := [.int (iI (v31))]) rfl ?_
        refine x_aload_n (i := 0) C dX6_advance_155 rfl rfl ?_
        refine x_getI C fkX_X6_61 (nlt rfl) rfl dX6_advance_156 ?_
        refine x_gen (fun v32 ev32 => ?_)
        have qv32 : ((-2147483648) : Int) ≤ v32 ∧ v32 ≤ (2147483647 : Int) := by
          rw [ev32]
          exact hH.rF (k := 21) (i := 7) rfl rfl
        refine x_icmp_ne (tgt := 175) C dX6_advance_159 (by decide) ⟨by omega, by omega⟩ ⟨by omega, by omega⟩ (fun h33 => ?_) (fun h33 => ?_)
        · have er : (r : Nat) = tE b N q := by
            rcases hr with hh | hh
            · unfold tE
              rw [if_pos hh.2.2.1, if_pos hh.2.1]
              refine (runTo_eq (N - (q + 1)) (q + 1) r hh.2.2.2.1 (by omega) hh.2.2.2.2.2 ?_).symm
              first | (left; omega) | (right; refine decide_eq_false (fun hb => ?_); rw [show b r = v30 by (rw [tv30]; congr 1; omega)] at hb; omega)
            · exact hh.2
          refine x_aload_n (i := 0) C dX6_advance_175 rfl rfl ?_
          refine x_getI C fkX_X6_61 (nlt rfl) rfl dX6_advance_176 ?_
          refine x_gen (fun v34 ev34 => ?_)
          have qv34 : ((-2147483648) : Int) ≤ v34 ∧ v34 ≤ (2147483647 : Int) := by
            rw [ev34]
            exact hH.rF (k := 21) (i := 7) rfl rfl
          refine x_iconst C dX6_advance_179 ?_
          refine x_icmp_ne (tgt := 201) C dX6_advance_180 (by decide) ⟨by omega, by omega⟩ ⟨by omega, by omega⟩ (fun h35 => ?_) (fun h35 => ?_)
          · refine x_aload_n (i := 0) C dX6_advance_201 rfl rfl ?_
            refine x_iconst C dX6_advance_202 ?_
            refine x_putI C pkX_X6_157 (nlt rfl) rfl dX6_advance_203 ?_
            refine x_gX (fun Yy36 eYy36 => ?_)
            have hHy36 : HG vX Yy36 := by
              rw [eYy36]
              exact hg_wF hH (p := ((-2147483648), 2147483647)) rfl ⟨by omega, by omega⟩
            have hFy36 : FR mdAD X0 Yy36 := by
              rw [eYy36]
              exact FR.upI hF (rfl)
            replace eYy36 : Yy36 = upI X 21 10 (0) := eYy36
            refine x_aload_n (i := 0) C dX6_advance_206 rfl rfl ?_
            refine x_getI C fkX_X6_73 (nlt rfl) rfl dX6_advance_207 ?_
            refine x_gen (fun v37 ev37 => ?_)
            have qv37 : ((-2147483648) : Int) ≤ v37 ∧ v37 ≤ (2147483647 : Int) := by
              rw [ev37]
              exact hHy36.rF (k := 21) (i := 8) rfl rfl
            have kv37 : v37 = X.1 21 8 := by rw [ev37, eYy36, upI_ne (by decide)]
            refine x_istore_n (i := 2) (lv' := [(2, .int (iI (v37))), (1, .int (iI (ro))), (0, .ref 21)]) C dX6_advance_210 rfl (nlt rfl) rfl ?_
            have tkk : tK b N q = tC b N q := by unfold tK; rw [if_neg (by omega)]
            rw [show v37 = (q : Int) + ((0 : Nat) : Int) by omega]
            refine Wx_pick [2, 0] ?_
            refine Wx_lv (lv' := [(2, .int (iI ((q : Int) + (0 : Nat)))), (0, .ref 21)]) rfl ?_
            exact c_ad3 hp hT0 hq C hQ 603 0 _ (by omega) hHy36 hFy36 (by rw [eYy36, upI_ne (by decide)]; omega) (by rw [eYy36, upI_ne (by decide)]; omega) (by rw [eYy36, upI_ne (by decide)]; omega) (by rw [eYy36, upI_at]; rfl) (by omega)
          · refine x_aload_n (i := 0) C dX6_advance_183 rfl rfl ?_
            refine x_getI C fkX_X6_39 (nlt rfl) rfl dX6_advance_184 ?_
            refine x_gen (fun v38 ev38 => ?_)
            have qv38 : ((-2147483648) : Int) ≤ v38 ∧ v38 ≤ (2147483647 : Int) := by
              rw [ev38]
              exact hH.rF (k := 21) (i := 9) rfl rfl
            refine x_aload_n (i := 0) C dX6_advance_187 rfl rfl ?_
            refine x_getI C fkX_X6_73 (nlt rfl) rfl dX6_advance_188 ?_
            refine x_gen (fun v39 ev39 => ?_)
            have qv39 : ((-2147483648) : Int) ≤ v39 ∧ v39 ≤ (2147483647 : Int) := by
              rw [ev39]
              exact hH.rF (k := 21) (i := 8) rfl rfl
            refine x_isub C dX6_advance_191 ?_
            refine x_iconst C dX6_advance_192 ?_
            refine x_icmp_le (tgt := 201) C dX6_advance_193 (by decide) ⟨by omega, by omega⟩ ⟨by omega, by omega⟩ (fun h40 => ?_) (fun h40 => ?_)
            · refine x_aload_n (i := 0) C dX6_advance_201 rfl rfl ?_
              refine x_iconst C dX6_advance_202 ?_
              refine x_putI C pkX_X6_157 (nlt rfl) rfl dX6_advance_203 ?_
              refine x_gX (fun Yy41 eYy41 => ?_)
              have hHy41 : HG vX Yy41 := by
                rw [eYy41]
                exact hg_wF hH (p := ((-2147483648), 2147483647)) rfl ⟨by omega, by omega⟩
              have hFy41 : FR mdAD X0 Yy41 := by
                rw [eYy41]
                exact FR.upI hF (rfl)
              replace eYy41 : Yy41 = upI X 21 10 (0) := eYy41
              refine x_aload_n (i := 0) C dX6_advance_206 rfl rfl ?_
              refine x_getI C fkX_X6_73 (nlt rfl) rfl dX6_advance_207 ?_
              refine x_gen (fun v42 ev42 => ?_)
              have qv42 : ((-2147483648) : Int) ≤ v42 ∧ v42 ≤ (2147483647 : Int) := by
                rw [ev42]
                exact hHy41.rF (k := 21) (i := 8) rfl rfl
              have kv42 : v42 = X.1 21 8 := by rw [ev42, eYy41, upI_ne (by decide)]
              refine x_istore_n (i := 2) (lv' := [(2, .int (iI (v42))), (1, .int (iI (ro))), (0, .ref 21)]) C dX6_advance_210 rfl (nlt rfl) rfl ?_
              have tkk : tK b N q = tC b N q := by unfold tK; rw [if_neg (by omega)]
              rw [show v42 = (q : Int) + ((0 : Nat) : Int) by omega]
              refine Wx_pick [2, 0] ?_
              refine Wx_lv (lv' := [(2, .int (iI ((q : Int) + (0 : Nat)))), (0, .ref 21)]) rfl ?_
              exact c_ad3 hp hT0 hq C hQ 603 0 _ (by omega) hHy41 hFy41 (by rw [eYy41, upI_ne (by decide)]; omega) (by rw [eYy41, upI_ne (by decide)]; omega) (by rw [eYy41, upI_ne (by decide)]; omega) (by rw [eYy41, upI_at]; rfl) (by omega)
            · refine x_aload_n (i := 0) C dX6_advance_196 rfl rfl ?_
              refine x_iconst C dX6_advance_197 ?_
              refine x_putI C pkX_X6_61 (nlt rfl) rfl dX6_advance_198 ?_
              refine x_gX (fun Yy43 eYy43 => ?_)
              have hHy43 : HG vX Yy43 := by
                rw [eYy43]
                exact hg_wF hH (p := ((-2147483648), 2147483647)) rfl ⟨by omega, by omega⟩
              have hFy43 : FR mdAD X0 Yy43 := by
                rw [eYy43]
                exact FR.upI hF (rfl)
              replace eYy43 : Yy43 = upI X 21 7 (4) := eYy43
              refine x_aload_n (i := 0) C dX6_advance_201 rfl rfl ?_
              refine x_iconst C dX6_advance_202 ?_
              refine x_putI C pkX_X6_157 (nlt rfl) rfl dX6_advance_203 ?_
              refine x_gX (fun Yy44 eYy44 => ?_)
              have hHy44 : HG vX Yy44 := by
                rw [eYy44]
                exact hg_wF hHy43 (p := ((-2147483648), 2147483647)) rfl ⟨by omega, by omega⟩
              have hFy44 : FR mdAD X0 Yy44 := by
                rw [eYy44]
                exact FR.upI hFy43 (rfl)
              replace eYy44 : Yy44 = upI Yy43 21 10 (0) := eYy44
              refine x_aload_n (i := 0) C dX6_advance_206 rfl rfl ?_
              refine x_getI C fkX_X6_73 (nlt rfl) rfl dX6_advance_207 ?_
              refine x_gen (fun v45 ev45 => ?_)
              have qv45 : ((-2147483648) : Int) ≤ v45 ∧ v45 ≤ (2147483647 : Int) := by
                rw [ev45]
                exact hHy44.rF (k := 21) (i := 8) rfl rfl
              have kv45 : v45 = X.1 21 8 := by rw [ev45, eYy44, upI_ne (by decide), eYy43, upI_ne (by decide)]
              refine x_istore_n (i := 2) (lv' := [(2, .int (iI (v45))), (1, .int (iI (ro))), (0, .ref 21)]) C dX6_advance_210 rfl (nlt rfl) rfl ?_
              have tkk : tK b N q = 4 := by unfold tK; rw [if_pos ⟨by omega, by omega⟩]
              rw [show v45 = (q : Int) + ((0 : Nat) : Int) by omega]
              refine Wx_pick [2, 0] ?_
              refine Wx_lv (lv' := [(2, .int (iI ((q : Int) + (0 : Nat)))), (0, .ref 21)]) rfl ?_
              exact c_ad3 hp hT0 hq C hQ 603 0 _ (by omega) hHy44 hFy44 (by rw [eYy44, upI_ne (by decide), eYy43, upI_ne (by decide)]; omega) (by rw [eYy44, upI_ne (by decide), eYy43, upI_at]; omega) (by rw [eYy44, upI_ne (by decide), eYy43, upI_ne (by decide)]; omega) (by rw [eYy44, upI_at]; rfl) (by omega)
        · refine x_aload_n (i := 0) C dX6_advance_162 rfl rfl ?_
          refine x_dup C dX6_advance_163 rfl ?_
          refine x_getI C fkX_X6_39 (nlt rfl) rfl dX6_advance_164 ?_
          refine x_gen (fun v46 ev46 => ?_)
          have qv46 : ((-2147483648) : Int) ≤ v46 ∧ v46 ≤ (2147483647 : Int) := by
            rw [ev46]
            exact hH.rF (k := 21) (i := 9) rfl rfl
          refine x_iconst C dX6_advance_167 ?_
          refine x_iadd C dX6_advance_168 ?_
          refine x_putI C pkX_X6_39 (nlt rfl) rfl dX6_advance_169 ?_
          refine x_gX (fun Yy47 eYy47 => ?_)
          have hHy47 : HG vX Yy47 := by
            rw [eYy47]
            exact hg_wF hH (p := ((-2147483648), 2147483647)) rfl ⟨by omega, by omega⟩
          have hFy47 : FR mdAD X0 Yy47 := by
            rw [eYy47]
            exact FR.upI hF (rfl)
          replace eYy47 : Yy47 = upI X 21 9 (v46 + 1) := eYy47
          refine x_goto (tgt := 128) C dX6_advance_172 (by decide) ?_
          refine Wx_pick [1, 0] ?_
          refine Wx_lv (lv' := [(1, .int (iI (ro))), (0, .ref 21)]) rfl ?_
          refine ih (r + 1) _ (by omega) hHy47 hFy47 (by rw [eYy47, upI_ne (by decide)]; exact hs) (by rw [eYy47, upI_ne (by decide)]; exact hk) (by rw [eYy47, upI_at]; omega) (.inl ⟨by omega, by omega, by omega, by omega, by omega, fun i a d => ?_⟩)
          by_cases ei : i = r
          · subst ei
            exact decide_eq_true (by rw [show b i = v30 by (rw [tv30]; congr 1; omega)]; omega)
          · exact hh.2.2.2.2.2 i a (by omega)
set_option maxHeartbeats 4000000 in
set_option maxRecDepth 100000 in
theorem c_ad1 {D : va_G} {ad : Nat → Nat} {cA : Nat → ClassId} {X0 : XT} {b : Nat → Int} {N : Nat} {p : Nat} (hp : p ≤ N) (hT0 : TPX b N X0) {E : ET} (C : CX E (wX D ad cA) cX6_advance 3 RX6 none { frames := 1, cells := 0, slots := 0, locals := 20 }) (hQ : EQ E (wX D ad cA) (fun r X1 => r = none ∧ HG vX X1 ∧ FR mdAD X0 X1 ∧ TKX b N (tS b N p) X1)) : ∀ (n : Nat) (q : Nat) (X : XT), ((N + 1 - q : Nat) : Int) < n → HG vX X → FR mdAD X0 X → X.1 21 8 = (q : Int) → X.1 21 9 = (p : Int) → p ≤ q → q ≤ N → (∀ i, p ≤ i → i < q → isK b 0 i = true) → Wx E (wX D ad cA) 3 (PX (wX D ad cA) X) 8 [(0, .ref 21)] [] := by
  intro n
  induction n with
  | zero => intro q X hn hH hF hs hn q0 q1 hb; exfalso; omega
  | succ n ih =>
    intro q X hn hH hF hs hn q0 q1 hb
    have n6 := hT0.2.2.1
    refine x_aload_n (i := 0) C dX6_advance_8 rfl rfl ?_
    refine x_getI C fkX_X6_73 (nlt rfl) rfl dX6_advance_9 ?_
    refine x_gen (fun v1 ev1 => ?_)
    have qv1 : ((-2147483648) : Int) ≤ v1 ∧ v1 ≤ (2147483647 : Int) := by
      rw [ev1]
      exact hH.rF (k := 21) (i := 8) rfl rfl
    refine x_aload_n (i := 0) C dX6_advance_12 rfl rfl ?_
    refine x_getI C fkX_X6_35 (nlt rfl) rfl dX6_advance_13 ?_
    refine x_gen (fun v2 ev2 => ?_)
    have qv2 : ((-2147483648) : Int) ≤ v2 ∧ v2 ≤ (2147483647 : Int) := by
      rw [ev2]
      exact hH.rF (k := 21) (i := 6) rfl rfl
    have nv2 : v2 = (N : Int) := by rw [ev2]; exact (hT0.fr hF rfl).2.1
    refine x_icmp_ge (tgt := 47) C dX6_advance_16 (by decide) ⟨by omega, by omega⟩ ⟨by omega, by omega⟩ (fun h3 => ?_) (fun h3 => ?_)
    · have eq1 : q = tS b N p := by
        unfold tS
        refine (runTo_eq (N - p) p q q0 (by omega) hb ?_).symm
        left
        omega
      have tc : tC b N q = 5 := by (unfold tC; rw [if_neg (by omega)])
      refine x_aload_n (i := 0) C dX6_advance_47 rfl rfl ?_
      refine x_aload_n (i := 0) C dX6_advance_48 rfl rfl ?_
      refine x_getI C fkX_X6_73 (nlt rfl) rfl dX6_advance_49 ?_
      refine x_gen (fun v4 ev4 => ?_)
      have qv4 : ((-2147483648) : Int) ≤ v4 ∧ v4 ≤ (2147483647 : Int) := by
        rw [ev4]
        exact hH.rF (k := 21) (i := 8) rfl rfl
      refine x_aload_n (i := 0) C dX6_advance_52 rfl rfl ?_
      refine x_getI C fkX_X6_35 (nlt rfl) rfl dX6_advance_53 ?_
      refine x_gen (fun v5 ev5 => ?_)
      have qv5 : ((-2147483648) : Int) ≤ v5 ∧ v5 ≤ (2147483647 : Int) := by
        rw [ev5]
        exact hH.rF (k := 21) (i := 6) rfl rfl
      have nv5 : v5 = (N : Int) := by rw [ev5]; exact (hT0.fr hF rfl).2.1
      refine x_icmp_ge (tgt := 74) C dX6_advance_56 (by decide) ⟨by omega, by omega⟩ ⟨by omega, by omega⟩ (fun h6 => ?_) (fun h6 => by exfalso; omega)
      refine x_iconst C dX6_advance_74 ?_
      refine x_putI C pkX_X6_61 (nlt rfl) rfl dX6_advance_75 ?_
      refine x_gX (fun Yy7 eYy7 => ?_)
      have hHy7 : HG vX Yy7 := by
        rw [eYy7]
        exact hg_wF hH (p := ((-2147483648), 2147483647)) rfl ⟨by omega, by omega⟩
      have hFy7 : FR mdAD X0 Yy7 := by
        rw [eYy7]
        exact FR.upI hF (rfl)
      replace eYy7 : Yy7 = upI X 21 7 (5) := eYy7
      refine x_aload_n (i := 0) C dX6_advance_78 rfl rfl ?_
      refine x_aload_n (i := 0) C dX6_advance_79 rfl rfl ?_
      refine x_getI C fkX_X6_73 (nlt rfl) rfl dX6_advance_80 ?_
      refine x_gen (fun v8 ev8 => ?_)
      have qv8 : ((-2147483648) : Int) ≤ v8 ∧ v8 ≤ (2147483647 : Int) := by
        rw [ev8]
        exact hHy7.rF (k := 21) (i := 8) rfl rfl
      have kv8 : v8 = X.1 21 8 := by rw [ev8, eYy7, upI_ne (by decide)]
      refine x_aload_n (i := 0) C dX6_advance_83 rfl rfl ?_
      refine x_getI C fkX_X6_35 (nlt rfl) rfl dX6_advance_84 ?_
      refine x_gen (fun v9 ev9 => ?_)
      have qv9 : ((-2147483648) : Int) ≤ v9 ∧ v9 ≤ (2147483647 : Int) := by
        rw [ev9]
        exact hHy7.rF (k := 21) (i := 6) rfl rfl
      have kv9 : v9 = X.1 21 6 := by rw [ev9, eYy7, upI_ne (by decide)]
      have nv9 : v9 = (N : Int) := by rw [ev9]; exact (hT0.fr hFy7 rfl).2.1
      refine x_icmp_ge (tgt := 99) C dX6_advance_87 (by decide) ⟨by omega, by omega⟩ ⟨by omega, by omega⟩ (fun h10 => ?_) (fun h10 => by exfalso; omega)
      refine x_aload_n (i := 0) C dX6_advance_99 rfl rfl ?_
      refine x_getI C fkX_X6_73 (nlt rfl) rfl dX6_advance_100 ?_
      refine x_gen (fun v11 ev11 => ?_)
      have qv11 : ((-2147483648) : Int) ≤ v11 ∧ v11 ≤ (2147483647 : Int) := by
        rw [ev11]
        exact hHy7.rF (k := 21) (i := 8) rfl rfl
      have kv11 : v11 = X.1 21 8 := by rw [ev11, eYy7, upI_ne (by decide)]
      refine x_putI C pkX_X6_39 (nlt rfl) rfl dX6_advance_103 ?_
      refine x_gX (fun Yy12 eYy12 => ?_)
      have hHy12 : HG vX Yy12 := by
        rw [eYy12]
        exact hg_wF hHy7 (p := ((-2147483648), 2147483647)) rfl ⟨by omega, by omega⟩
      have hFy12 : FR mdAD X0 Yy12 := by
        rw [eYy12]
        exact FR.upI hFy7 (rfl)
      replace eYy12 : Yy12 = upI Yy7 21 9 (v11) := eYy12
      refine x_aload_n (i := 0) C dX6_advance_106 rfl rfl ?_
      refine x_getI C fkX_X6_61 (nlt rfl) rfl dX6_advance_107 ?_
      refine x_gen (fun v13 ev13 => ?_)
      have qv13 : ((-2147483648) : Int) ≤ v13 ∧ v13 ≤ (2147483647 : Int) := by
        rw [ev13]
        exact hHy12.rF (k := 21) (i := 7) rfl rfl
      have kv13 : v13 = 5 := by rw [ev13, eYy12, upI_ne (by decide), eYy7, upI_at]
      refine x_iconst C dX6_advance_110 ?_
      refine x_icmp_eq (tgt := 122) C dX6_advance_111 (by decide) ⟨by omega, by omega⟩ ⟨by omega, by omega⟩ (fun h14 => ?_) (fun h14 => ?_)
      · refine x_iconst C dX6_advance_122 ?_
        refine x_goto (tgt := 127) C dX6_advance_123 (by decide) ?_
        refine x_istore_n (i := 1) (lv' := [(1, .int (iI (1))), (0, .ref 21)]) C dX6_advance_127 rfl (nlt rfl) rfl ?_
        refine Wx_pick [1, 0] ?_
        refine Wx_lv (lv' := [(1, .int (iI (1))), (0, .ref 21)]) rfl ?_
        exact c_ad2 hp hT0 eq1 (by omega) (by omega) C hQ (N + 2) q _ (by omega) hHy12 hFy12 (by rw [eYy12, upI_ne (by decide), eYy7, upI_ne (by decide)]; omega) (by rw [eYy12, upI_ne (by decide), eYy7, upI_at]; omega) (by rw [eYy12, upI_at]; omega) (.inr ⟨by omega, by unfold tE; rw [if_neg (by omega)]⟩)
      · refine x_aload_n (i := 0) C dX6_advance_114 rfl rfl ?_
        refine x_getI C fkX_X6_61 (nlt rfl) rfl dX6_advance_115 ?_
        refine x_gen (fun v15 ev15 => ?_)
        have qv15 : ((-2147483648) : Int) ≤ v15 ∧ v15 ≤ (2147483647 : Int) := by
          rw [ev15]
          exact hHy12.rF (k := 21) (i := 7) rfl rfl
        have kv15 : v15 = 5 := by rw [ev15, eYy12, upI_ne (by decide), eYy7, upI_at]
        refine x_iconst C dX6_advance_118 ?_
        refine x_icmp_ne (tgt := 126) C dX6_advance_119 (by decide) ⟨by omega, by omega⟩ ⟨by omega, by omega⟩ (fun h16 => ?_) (fun h16 => ?_)
        · refine x_iconst C dX6_advance_126 ?_
          refine x_istore_n (i := 1) (lv' := [(1, .int (iI (0))), (0, .ref 21)]) C dX6_advance_127 rfl (nlt rfl) rfl ?_
          refine Wx_pick [1, 0] ?_
          refine Wx_lv (lv' := [(1, .int (iI (0))), (0, .ref 21)]) rfl ?_
          exact c_ad2 hp hT0 eq1 (by omega) (by omega) C hQ (N + 2) q _ (by omega) hHy12 hFy12 (by rw [eYy12, upI_ne (by decide), eYy7, upI_ne (by decide)]; omega) (by rw [eYy12, upI_ne (by decide), eYy7, upI_at]; omega) (by rw [eYy12, upI_at]; omega) (.inr ⟨by omega, by unfold tE; rw [if_neg (by omega)]⟩)
        · refine x_iconst C dX6_advance_122 ?_
          refine x_goto (tgt := 127) C dX6_advance_123 (by decide) ?_
          refine x_istore_n (i := 1) (lv' := [(1, .int (iI (1))), (0, .ref 21)]) C dX6_advance_127 rfl (nlt rfl) rfl ?_
          refine Wx_pick [1, 0] ?_
          refine Wx_lv (lv' := [(1, .int (iI (1))), (0, .ref 21)]) rfl ?_
          exact c_ad2 hp hT0 eq1 (by omega) (by omega) C hQ (N + 2) q _ (by omega) hHy12 hFy12 (by rw [eYy12, upI_ne (by decide), eYy7, upI_ne (by decide)]; omega) (by rw [eYy12, upI_ne (by decide), eYy7, upI_at]; omega) (by rw [eYy12, upI_at]; omega) (.inr ⟨by omega, by unfold tE; rw [if_neg (by omega)]⟩)
    · refine x_aload_n (i := 0) C dX6_advance_19 rfl rfl ?_
      refine x_getRs (r := 2) C fkX_X6_25 (nlt rfl) rfl (hT0.fr hF rfl).1 dX6_advance_20 ?_
      refine x_aload_n (i := 0) C dX6_advance_23 rfl rfl ?_
      refine x_getI C fkX_X6_73 (nlt rfl) rfl dX6_advance_24 ?_
      refine x_gen (fun v17 ev17 => ?_)
      have qv17 : ((-2147483648) : Int) ≤ v17 ∧ v17 ≤ (2147483647 : Int) := by
        rw [ev17]
        exact hH.rF (k := 21) (i := 8) rfl rfl
      refine x_iald C (nlt rfl) rfl rfl (nle rfl) (by omega) (by omega) dX6_advance_27 ?_
      refine x_gen (fun v18 ev18 => ?_)
      have qv18 : (0 : Int) ≤ v18 ∧ v18 ≤ (255 : Int) := by
        rw [ev18]
        exact hH.rA (k := 2) (n := 600) (p := (0, 255)) (nlt rfl) rfl (by decide +kernel) (by omega)
      have tv18 : v18 = b (v17).toNat := by rw [ev18]; exact (hT0.fr hF rfl).2.2.2 _ (by omega)
      refine x_callS (As := [.int (iI (v18))]) C (by exact (x_kindOf (z := v18) ⟨by omega, by omega⟩)) ckX6_167 sm_X6_kindOf rfl rfl (nle rfl) (by exact ⟨nle rfl, nle rfl⟩) dX6_advance_28 ?_
      rintro _ Xv19 ⟨hxv19, v19, rfl, ev19⟩
      rw [hxv19]
      have bv19 := kOf_bd (v18)
      rw [← ev19] at bv19
      refine Wx_st (st' := [.int (iI (v19))]) rfl ?_
      refine x_if_ne (tgt := 47) C dX6_advance_31 (by decide) ⟨by omega, by omega⟩ (fun h20 => ?_) (fun h20 => ?_)
      · have eq1 : q = tS b N p := by
          unfold tS
          refine (runTo_eq (N - p) p q q0 (by omega) hb ?_).symm
          right
          exact decide_eq_false (fun hb2 => by rw [show b q = v18 by (rw [tv18]; congr 1; omega)] at hb2; omega)
        have tc : tC b N q = kOf (b q) := by (unfold tC; rw [if_pos (by omega)])
        refine x_aload_n (i := 0) C dX6_advance_47 rfl rfl ?_
        refine x_aload_n (i := 0) C dX6_advance_48 rfl rfl ?_
        refine x_getI C fkX_X6_73 (nlt rfl) rfl dX6_advance_49 ?_
        refine x_gen (fun v21 ev21 => ?_)
        have qv21 : ((-2147483648) : Int) ≤ v21 ∧ v21 ≤ (2147483647 : Int) := by
          rw [ev21]
          exact hH.rF (k := 21) (i := 8) rfl rfl
        refine x_aload_n (i := 0) C dX6_advance_52 rfl rfl ?_
        refine x_getI C fkX_X6_35 (nlt rfl) rfl dX6_advance_53 ?_
        refine x_gen (fun v22 ev22 => ?_)
        have qv22 : ((-2147483648) : Int) ≤ v22 ∧ v22 ≤ (2147483647 : Int) := by
          rw [ev22]
          exact hH.rF (k := 21) (i := 6) rfl rfl
        have nv22 : v22 = (N : Int) := by rw [ev22]; exact (hT0.fr hF rfl).2.1
        refine x_icmp_ge (tgt := 74) C dX6_advance_56 (by decide) ⟨by omega, by omega⟩ ⟨by omega, by omega⟩ (fun h23 => by exfalso; omega) (fun h23 => ?_)
        refine x_aload_n (i := 0) C dX6_advance_59 rfl rfl ?_
        refine x_getRs (r := 2) C fkX_X6_25 (nlt rfl) rfl (hT0.fr hF rfl).1 dX6_advance_60 ?_
        refine x_aload_n (i := 0) C dX6_advance_63 rfl rfl ?_
        refine x_getI C fkX_X6_73 (nlt rfl) rfl dX6_advance_64 ?_
        refine x_gen (fun v24 ev24 => ?_)
        have qv24 : ((-2147483648) : Int) ≤ v24 ∧ v24 ≤ (2147483647 : Int) := by
          rw [ev24]
          exact hH.rF (k := 21) (i := 8) rfl rfl
        refine x_iald C (nlt rfl) rfl rfl (nle rfl) (by omega) (by omega) dX6_advance_67 ?_
        refine x_gen (fun v25 ev25 => ?_)
        have qv25 : (0 : Int) ≤ v25 ∧ v25 ≤ (255 : Int) := by
          rw [ev25]
          exact hH.rA (k := 2) (n := 600) (p := (0, 255)) (nlt rfl) rfl (by decide +kernel) (by omega)
        have tv25 : v25 = b (v24).toNat := by rw [ev25]; exact (hT0.fr hF rfl).2.2.2 _ (by omega)
        refine x_callS (As := [.int (iI (v25))]) C (by exact (x_kindOf (z := v25) ⟨by omega, by omega⟩)) ckX6_167 sm_X6_kindOf rfl rfl (nle rfl) (by exact ⟨nle rfl, nle rfl⟩) dX6_advance_68 ?_
        rintro _ Xv26 ⟨hxv26, v26, rfl, ev26⟩
        rw [hxv26]
        have bv26 := kOf_bd (v25)
        rw [← ev26] at bv26
        refine Wx_st (st' := [.int (iI (v26)), .ref 21]) rfl ?_
        refine x_goto (tgt := 75) C dX6_advance_71 (by decide) ?_
        refine x_putI C pkX_X6_61 (nlt rfl) rfl dX6_advance_75 ?_
        refine x_gX (fun Yy27 eYy27 => ?_)
        have hHy27 : HG vX Yy27 := by
          rw [eYy27]
          exact hg_wF hH (p := ((-2147483648), 2147483647)) rfl ⟨by omega, by omega⟩
        have hFy27 : FR mdAD X0 Yy27 := by
          rw [eYy27]
          exact FR.upI hF (rfl)
        replace eYy27 : Yy27 = upI X 21 7 (v26) := eYy27
        refine x_aload_n (i := 0) C dX6_advance_78 rfl rfl ?_
        refine x_aload_n (i := 0) C dX6_advance_79 rfl rfl ?_
        refine x_getI C fkX_X6_73 (nlt rfl) rfl dX6_advance_80 ?_
        refine x_gen (fun v28 ev28 => ?_)
        have qv28 : ((-2147483648) : Int) ≤ v28 ∧ v28 ≤ (2147483647 : Int) := by
          rw [ev28]
          exact hHy27.rF (k := 21) (i := 8) rfl rfl
        have kv28 : v28 = X.1 21 8 := by rw [ev28, eYy27, upI_ne (by decide)]
        refine x_aload_n (i := 0) C dX6_advance_83 rfl rfl ?_
        refine x_getI C fkX_X6_35 (nlt rfl) rfl dX6_advance_84 ?_
        refine x_gen (fun v29 ev29 => ?_)
        have qv29 : ((-2147483648) : Int) ≤ v29 ∧ v29 ≤ (2147483647 : Int) := by
          rw [ev29]
          exact hHy27.rF (k := 21) (i := 6) rfl rfl
        have kv29 : v29 = X.1 21 6 := by rw [ev29, eYy27, upI_ne (by decide)]
        have nv29 : v29 = (N : Int) := by rw [ev29]; exact (hT0.fr hFy27 rfl).2.1
        refine x_icmp_ge (tgt := 99) C dX6_advance_87 (by decide) ⟨by omega, by omega⟩ ⟨by omega, by omega⟩ (fun h30 => by exfalso; omega) (fun h30 => ?_)
        refine x_aload_n (i := 0) C dX6_advance_90 rfl rfl ?_
        refine x_getI C fkX_X6_73 (nlt rfl) rfl dX6_advance_91 ?_
        refine x_gen (fun v31 ev31 => ?_)
        have qv31 : ((-2147483648) : Int) ≤ v31 ∧ v31 ≤ (2147483647 : Int) := by
          rw [ev31]
          exact hHy27.rF (k := 21) (i := 8) rfl rfl
        have kv31 : v31 = X.1 21 8 := by rw [ev31, eYy27, upI_ne (by decide)]
        refine x_iconst C dX6_advance_94 ?_
        refine x_iadd C dX6_advance_95 ?_
        refine x_goto (tgt := 103) C dX6_advance_96 (by decide) ?_
        refine x_putI C pkX_X6_39 (nlt rfl) rfl dX6_advance_103 ?_
        refine x_gX (fun Yy32 eYy32 => ?_)
        have hHy32 : HG vX Yy32 := by
          rw [eYy32]
          exact hg_wF hHy27 (p := ((-2147483648), 2147483647)) rfl ⟨by omega, by omega⟩
        have hFy32 : FR mdAD X0 Yy32 := by
          rw [eYy32]
          exact FR.upI hFy27 (rfl)
        replace eYy32 : Yy32 = upI Yy27 21 9 (v31 + 1) := eYy32
        refine x_aload_n (i := 0) C dX6_advance_106 rfl rfl ?_
        refine x_getI C fkX_X6_61 (nlt rfl) rfl dX6_advance_107 ?_
        refine x_gen (fun v33 ev33 => ?_)
        have qv33 : ((-2147483648) : Int) ≤ v33 ∧ v33 ≤ (2147483647 : Int) := by
          rw [ev33]
          exact hHy32.rF (k := 21) (i := 7) rfl rfl
        have kv33 : v33 = v26 := by rw [ev33, eYy32, upI_ne (by decide), eYy27, upI_at]
        refine x_iconst C dX6_advance_110 ?_
        refine x_icmp_eq (tgt := 122) C dX6_advance_111 (by decide) ⟨by omega, by omega⟩ ⟨by omega, by omega⟩ (fun h34 => ?_) (fun h34 => ?_)
        · refine x_iconst C dX6_advance_122 ?_
          refine x_goto (tgt := 127) C dX6_advance_123 (by decide) ?_
          refine x_istore_n (i := 1) (lv' := [(1, .int (iI (1))), (0, .ref 21)]) C dX6_advance_127 rfl (nlt rfl) rfl ?_
          have tkb : v26 = tC b N q := by rw [tc]; rw [show b q = v25 by (rw [tv25]; congr 1; omega)]; exact ev26
          refine Wx_pick [1, 0] ?_
          refine Wx_lv (lv' := [(1, .int (iI (1))), (0, .ref 21)]) rfl ?_
          exact c_ad2 hp hT0 eq1 (by omega) (by omega) C hQ (N + 2) (q + 1) _ (by omega) hHy32 hFy32 (by rw [eYy32, upI_ne (by decide), eYy27, upI_ne (by decide)]; omega) (by rw [eYy32, upI_ne (by decide), eYy27, upI_at]; omega) (by rw [eYy32, upI_at]; omega) (.inl ⟨by omega, by omega, by omega, by omega, by omega, fun i a d => absurd d (by omega)⟩)
        · refine x_aload_n (i := 0) C dX6_advance_114 rfl rfl ?_
          refine x_getI C fkX_X6_61 (nlt rfl) rfl dX6_advance_115 ?_
          refine x_gen (fun v35 ev35 => ?_)
          have qv35 : ((-2147483648) : Int) ≤ v35 ∧ v35 ≤ (2147483647 : Int) := by
            rw [ev35]
            exact hHy32.rF (k := 21) (i := 7) rfl rfl
          have kv35 : v35 = v26 := by rw [ev35, eYy32, upI_ne (by decide), eYy27, upI_at]
          refine x_iconst C dX6_advance_118 ?_
          refine x_icmp_ne (tgt := 126) C dX6_advance_119 (by decide) ⟨by omega, by omega⟩ ⟨by omega, by omega⟩ (fun h36 => ?_) (fun h36 => ?_)
          · refine x_iconst C dX6_advance_126 ?_
            refine x_istore_n (i := 1) (lv' := [(1, .int (iI (0))), (0, .ref 21)]) C dX6_advance_127 rfl (nlt rfl) rfl ?_
            have tkb : v26 = tC b N q := by rw [tc]; rw [show b q = v25 by (rw [tv25]; congr 1; omega)]; exact ev26
            refine Wx_pick [1, 0] ?_
            refine Wx_lv (lv' := [(1, .int (iI (0))), (0, .ref 21)]) rfl ?_
            exact c_ad2 hp hT0 eq1 (by omega) (by omega) C hQ (N + 2) (q + 1) _ (by omega) hHy32 hFy32 (by rw [eYy32, upI_ne (by decide), eYy27, upI_ne (by decide)]; omega) (by rw [eYy32, upI_ne (by decide), eYy27, upI_at]; omega) (by rw [eYy32, upI_at]; omega) (.inr ⟨by omega, by unfold tE; rw [if_pos (by omega), if_neg (by omega)]⟩)
          · refine x_iconst C dX6_advance_122 ?_
            refine x_goto (tgt := 127) C dX6_advance_123 (by decide) ?_
            refine x_istore_n (i := 1) (lv' := [(1, .int (iI (1))), (0, .ref 21)]) C dX6_advance_127 rfl (nlt rfl) rfl ?_
            have tkb : v26 = tC b N q := by rw [tc]; rw [show b q = v25 by (rw [tv25]; congr 1; omega)]; exact ev26
            refine Wx_pick [1, 0] ?_
            refine Wx_lv (lv' := [(1, .int (iI (1))), (0, .ref 21)]) rfl ?_
            exact c_ad2 hp hT0 eq1 (by omega) (by omega) C hQ (N + 2) (q + 1) _ (by omega) hHy32 hFy32 (by rw [eYy32, upI_ne (by decide), eYy27, upI_ne (by decide)]; omega) (by rw [eYy32, upI_ne (by decide), eYy27, upI_at]; omega) (by rw [eYy32, upI_at]; omega) (.inl ⟨by omega, by omega, by omega, by omega, by omega, fun i a d => absurd d (by omega)⟩)
      · refine x_aload_n (i := 0) C dX6_advance_34 rfl rfl ?_
        refine x_dup C dX6_advance_35 rfl ?_
        refine x_getI C fkX_X6_73 (nlt rfl) rfl dX6_advance_36 ?_
        refine x_gen (fun v37 ev37 => ?_)
        have qv37 : ((-2147483648) : Int) ≤ v37 ∧ v37 ≤ (2147483647 : Int) := by
          rw [ev37]
          exact hH.rF (k := 21) (i := 8) rfl rfl
        refine x_iconst C dX6_advance_39 ?_
        refine x_iadd C dX6_advance_40 ?_
        refine x_putI C pkX_X6_73 (nlt rfl) rfl dX6_advance_41 ?_
        refine x_gX (fun Yy38 eYy38 => ?_)
        have hHy38 : HG vX Yy38 := by
          rw [eYy38]
          exact hg_wF hH (p := ((-2147483648), 2147483647)) rfl ⟨by omega, by omega⟩
        have hFy38 : FR mdAD X0 Yy38 := by
          rw [eYy38]
          exact FR.upI hF (rfl)
        replace eYy38 : Yy38 = upI X 21 8 (v37 + 1) := eYy38
        refine x_goto (tgt := 8) C dX6_advance_44 (by decide) ?_
        refine ih (q + 1) _ (by omega) hHy38 hFy38 (by rw [eYy38, upI_at]; omega) (by rw [eYy38, upI_ne (by decide)]; exact hn) (by omega) (by omega) (fun i a d => ?_)
        by_cases ei : i = q
        · subst ei
          exact decide_eq_true (by rw [show b i = v18 by (rw [tv18]; congr 1; omega)]; omega)
        · exact hb i a (by omega)
set_option maxHeartbeats 4000000 in
set_option maxRecDepth 100000 in
theorem c_advance {D : va_G} {ad : Nat → Nat} {cA : Nat → ClassId} {X0 : XT} {b : Nat → Int} {N : Nat} {p : Nat} (hp : p ≤ N) (hT0 : TPX b N X0) (hH : HG vX X0) (hF : FR mdAD X0 X0) (hn : X0.1 21 9 = (p : Int)) : MetX (wX D ad cA) yX6_advance cX6_advance 3 none 1 20 [.ref 21] X0 (fun r X1 => r = none ∧ HG vX X1 ∧ FR mdAD X0 X1 ∧ TKX b N (tS b N p) X1) := by
  have n6 := hT0.2.2.1
  refine MetX.mk (own := RX6) (by decide +kernel) rfl (nle rfl) (fun E C hQ => ?_)
  refine Wx_lv (lv' := [(0, .ref 21)]) rfl ?_
  refine x_aload_n (i := 0) C dX6_advance_0 rfl rfl ?_
  refine x_aload_n (i := 0) C dX6_advance_1 rfl rfl ?_
  refine x_getI C fkX_X6_39 (nlt rfl) rfl dX6_advance_2 ?_
  refine x_gen (fun v1 ev1 => ?_)
  have qv1 : ((-2147483648) : Int) ≤ v1 ∧ v1 ≤ (2147483647 : Int) := by
    rw [ev1]
    exact hH.rF (k := 21) (i := 9) rfl rfl
  refine x_putI C pkX_X6_73 (nlt rfl) rfl dX6_advance_5 ?_
  refine x_gX (fun Yy2 eYy2 => ?_)
  have hHy2 : HG vX Yy2 := by
    rw [eYy2]
    exact hg_wF hH (p := ((-2147483648), 2147483647)) rfl ⟨by omega, by omega⟩
  have hFy2 : FR mdAD X0 Yy2 := by
    rw [eYy2]
    exact FR.upI hF (rfl)
  replace eYy2 : Yy2 = upI X0 21 8 (v1) := eYy2
  exact c_ad1 hp hT0 C hQ (N + 2) p _ (by omega) hHy2 hFy2 (by rw [eYy2, upI_at]; omega) (by rw [eYy2, upI_ne (by decide)]; exact hn) (Nat.le_refl p) hp (fun i a d => absurd d (by omega))
set_option maxHeartbeats 4000000 in
set_option maxRecDepth 100000 in
theorem c_note {D : va_G} {ad : Nat → Nat} {cA : Nat → ClassId} {X0 : XT} {F : Int × Int} {f p : Int} (ff : inR f) (pp : inR p) (hH : HG vX X0) (hF : FR mdNT X0 X0) (hL : FLX F X0) : MetX (wX D ad cA) yX6_note cX6_note 3 none 0 0 [.ref 21, .int (iI (f)), .int (iI (p))] X0 (fun r X1 => r = none ∧ HG vX X1 ∧ FR mdNT X0 X1 ∧ FLX (ntF F f p) X1) := by
  unfold inR at ff pp
  refine MetX.mk (own := RX6) (by decide +kernel) rfl (nle rfl) (fun E C hQ => ?_)
  refine Wx_lv (lv' := [(0, .ref 21), (1, .int (iI (f))), (2, .int (iI (p)))]) rfl ?_
  refine x_aload_n (i := 0) C dX6_note_0 rfl rfl ?_
  refine x_getI C fkX_X6_42 (nlt rfl) rfl dX6_note_1 ?_
  refine x_gen (fun v1 ev1 => ?_)
  have qv1 : ((-2147483648) : Int) ≤ v1 ∧ v1 ≤ (2147483647 : Int) := by
    rw [ev1]
    exact hH.rF (k := 21) (i := 3) rfl rfl
  refine x_if_ne (tgt := 17) C dX6_note_4 (by decide) ⟨by omega, by omega⟩ (fun h2 => ?_) (fun h2 => ?_)
  · exact x_vret C hQ dX6_note_17 (⟨rfl, hH, hF, by unfold ntF; rw [if_neg (by have := hL.1; omega)]; exact hL⟩)
  · refine x_aload_n (i := 0) C dX6_note_7 rfl rfl ?_
    refine x_iload_n (i := 1) C dX6_note_8 rfl rfl ?_
    refine x_putI C pkX_X6_42 (nlt rfl) rfl dX6_note_9 ?_
    refine x_gX (fun Yy3 eYy3 => ?_)
    have hHy3 : HG vX Yy3 := by
      rw [eYy3]
      exact hg_wF hH (p := ((-2147483648), 2147483647)) rfl ⟨by omega, by omega⟩
    have hFy3 : FR mdNT X0 Yy3 := by
      rw [eYy3]
      exact FR.upI hF (rfl)
    replace eYy3 : Yy3 = upI X0 21 3 (f) := eYy3
    have hGy3 : FR [(21, some 3)] X0 Yy3 := by
      rw [eYy3]
      exact FR.upI FR.rf rfl
    refine x_aload_n (i := 0) C dX6_note_12 rfl rfl ?_
    refine x_iload_n (i := 2) C dX6_note_13 rfl rfl ?_
    refine x_putI C pkX_X6_45 (nlt rfl) rfl dX6_note_14 ?_
    refine x_gX (fun Yy4 eYy4 => ?_)
    have hHy4 : HG vX Yy4 := by
      rw [eYy4]
      exact hg_wF hHy3 (p := ((-2147483648), 2147483647)) rfl ⟨by omega, by omega⟩
    have hFy4 : FR mdNT X0 Yy4 := by
      rw [eYy4]
      exact FR.upI hFy3 (rfl)
    replace eYy4 : Yy4 = upI Yy3 21 4 (p) := eYy4
    have hGy4 : FR [(21, some 4)] Yy3 Yy4 := by
      rw [eYy4]
      exact FR.upI FR.rf rfl
    exact x_vret C hQ dX6_note_17 (⟨rfl, hHy4, hFy4, by unfold ntF; rw [if_pos (by have := hL.1; omega)]; exact ⟨by rw [eYy4, upI_ne (by decide), eYy3, upI_at], by rw [eYy4, upI_at]⟩⟩)
theorem c_adv {D : va_G} {ad : Nat → Nat} {cA : Nat → ClassId} {X0 : XT} {b : Nat → Int} {N : Nat} (hT0 : TPX b N X0) (hH : HG vX X0) {s : Nat} (hK : TKX b N s X0) (hF : FR mdAD X0 X0) : MetX (wX D ad cA) yX6_advance cX6_advance 3 none 1 20 [.ref 21] X0 (fun r X1 => r = none ∧ HG vX X1 ∧ FR mdAD X0 X1 ∧ TKX b N (nx b N s) X1) := c_advance (tE_bd b N s hK.2.2.2.2).2.1 hT0 hH hF hK.2.2.1
set_option maxHeartbeats 4000000 in
set_option maxRecDepth 100000 in
theorem c_takeNumber {D : va_G} {ad : Nat → Nat} {cA : Nat → ClassId} {X0 : XT} {b : Nat → Int} {N : Nat} (hT0 : TPX b N X0) (hH : HG vX X0) {s : Nat} {F : Int × Int} {lo hi : Int} (l0 : 0 ≤ lo) (l1 : lo ≤ 2) (i0 : 0 ≤ hi) (i1 : hi ≤ 35) (hF : FR mdTN X0 X0) (hK : TKX b N s X0) (hL : FLX F X0) : MetX (wX D ad cA) yX6_takeNumber cX6_takeNumber 4 (some .int) 2 42 [.ref 21, .int (iI (lo)), .int (iI (hi))] X0 (fun r X1 => ∃ u : Int, r = some (.int (iI u)) ∧ u = tnV b N s ∧ HG vX X1 ∧ FR mdTN X0 X1 ∧ TKX b N (tnS b N s) X1 ∧ FLX (tnF b N lo hi s F) X1) := by
  refine MetX.mk (own := RX6) (by decide +kernel) rfl (nle rfl) (fun E C hQ => ?_)
  refine Wx_lv (lv' := [(0, .ref 21), (1, .int (iI (lo))), (2, .int (iI (hi)))]) rfl ?_
  refine x_aload_n (i := 0) C dX6_takeNumber_0 rfl rfl ?_
  refine x_getI C fkX_X6_61 (nlt rfl) rfl dX6_takeNumber_1 ?_
  refine x_gen (fun v1 ev1 => ?_)
  have qv1 : ((-2147483648) : Int) ≤ v1 ∧ v1 ≤ (2147483647 : Int) := by
    rw [ev1]
    exact hH.rF (k := 21) (i := 7) rfl rfl
  refine x_iconst C dX6_takeNumber_4 ?_
  refine x_icmp_eq (tgt := 10) C dX6_takeNumber_5 (by decide) ⟨by omega, by omega⟩ ⟨by omega, by omega⟩ (fun h2 => ?_) (fun h2 => ?_)
  · have k2 : tK b N s = 2 := by have := hK.2.1; omega
    have tv := tV_bd k2 hK.2.2.2.2
    have tv2 := hK.2.2.2.1
    have ts := hK.1
    have n6 := hT0.2.2.1
    have s6 := hK.2.2.2.2
    refine x_aload_n (i := 0) C dX6_takeNumber_10 rfl rfl ?_
    refine x_getI C fkX_X6_157 (nlt rfl) rfl dX6_takeNumber_11 ?_
    refine x_gen (fun v3 ev3 => ?_)
    have qv3 : ((-2147483648) : Int) ≤ v3 ∧ v3 ≤ (2147483647 : Int) := by
      rw [ev3]
      exact hH.rF (k := 21) (i := 10) rfl rfl
    refine x_istore_n (i := 3) (lv' := [(3, .int (iI (v3))), (0, .ref 21), (1, .int (iI (lo))), (2, .int (iI (hi)))]) C dX6_takeNumber_14 rfl (nlt rfl) rfl ?_
    refine x_iload_n (i := 3) C dX6_takeNumber_15 rfl rfl ?_
    refine x_iload_n (i := 1) C dX6_takeNumber_16 rfl rfl ?_
    refine x_icmp_lt (tgt := 25) C dX6_takeNumber_17 (by decide) ⟨by omega, by omega⟩ ⟨by omega, by omega⟩ (fun h4 => ?_) (fun h4 => ?_)
    · refine x_aload_n (i := 0) C dX6_takeNumber_25 rfl rfl ?_
      refine x_iconst C dX6_takeNumber_26 ?_
      refine x_aload_n (i := 0) C dX6_takeNumber_27 rfl rfl ?_
      skip
      refine x_getI C fkX_X6_73 (nlt rfl) rfl dX6_takeNumber_28 ?_
      refine x_gen (fun v5 ev5 => ?_)
      have qv5 : ((-2147483648) : Int) ≤ v5 ∧ v5 ≤ (2147483647 : Int) := by
        rw [ev5]
        exact hH.rF (k := 21) (i := 8) rfl rfl
      refine x_callV (As := [.int (iI (2)), .int (iI (v5))]) C (by exact (c_note (F := F) (f := 2) (p := v5) ⟨by omega, by omega⟩ ⟨by omega, by omega⟩ hH FR.rf hL)) ckX6_79 im_X6_note se_X6_note (nlt rfl) rfl rfl rfl rfl (nle rfl) (by exact ⟨nle rfl, nle rfl⟩) dX6_takeNumber_31 ?_
      rintro _ Yy6 ⟨rfl, hHy6, hGy6, hLy6⟩
      have hFy6 : FR mdTN X0 Yy6 := FR.tr hF hGy6 (by decide)
      have hKy6 := hK.fr hGy6 rfl
      have pvy6 : v5 = ((s : Nat) : Int) := by have := hK.1; omega
      rw [pvy6] at hLy6
      refine Wx_st (st' := []) rfl ?_
      refine x_aload_n (i := 0) C dX6_takeNumber_34 rfl rfl ?_
      refine x_callV (As := []) C (by exact (c_adv (s := s) (hT0.fr hFy6 rfl) hHy6 hKy6 FR.rf)) ckX6_54 im_X6_advance se_X6_advance (nlt rfl) rfl rfl rfl rfl (nle rfl) (by exact ⟨nle rfl, nle rfl⟩) dX6_takeNumber_35 ?_
      rintro _ Yy7 ⟨rfl, hHy7, hGy7, hKy7⟩
      have hFy7 : FR mdTN X0 Yy7 := FR.tr hFy6 hGy7 (by decide)
      have hLy7 := hLy6.fr hGy7 rfl
      refine Wx_st (st' := []) rfl ?_
      refine x_iload_n (i := 3) C dX6_takeNumber_38 rfl rfl ?_
      exact x_iret C hQ dX6_takeNumber_39 (⟨_, rfl, by unfold tnV; rw [if_pos k2]; omega, hHy7, hFy7, by unfold tnS; rw [if_pos k2]; exact hKy7, by unfold tnF; rw [if_pos k2, if_pos (by omega)]; exact hLy7⟩)
    · refine x_iload_n (i := 3) C dX6_takeNumber_20 rfl rfl ?_
      refine x_iload_n (i := 2) C dX6_takeNumber_21 rfl rfl ?_
      refine x_icmp_le (tgt := 34) C dX6_takeNumber_22 (by decide) ⟨by omega, by omega⟩ ⟨by omega, by omega⟩ (fun h8 => ?_) (fun h8 => ?_)
      · refine x_aload_n (i := 0) C dX6_takeNumber_34 rfl rfl ?_
        refine x_callV (As := []) C (by exact (c_adv (s := s) (hT0.fr hF rfl) hH hK FR.rf)) ckX6_54 im_X6_advance se_X6_advance (nlt rfl) rfl rfl rfl rfl (nle rfl) (by exact ⟨nle rfl, nle rfl⟩) dX6_takeNumber_35 ?_
        rintro _ Yy9 ⟨rfl, hHy9, hGy9, hKy9⟩
        have hFy9 : FR mdTN X0 Yy9 := FR.tr hF hGy9 (by decide)
        have hLy9 := hL.fr hGy9 rfl
        refine Wx_st (st' := []) rfl ?_
        refine x_iload_n (i := 3) C dX6_takeNumber_38 rfl rfl ?_
        exact x_iret C hQ dX6_takeNumber_39 (⟨_, rfl, by unfold tnV; rw [if_pos k2]; omega, hHy9, hFy9, by unfold tnS; rw [if_pos k2]; exact hKy9, by unfold tnF; rw [if_pos k2, if_neg (by omega)]; exact hLy9⟩)
      · refine x_aload_n (i := 0) C dX6_takeNumber_25 rfl rfl ?_
        refine x_iconst C dX6_takeNumber_26 ?_
        refine x_aload_n (i := 0) C dX6_takeNumber_27 rfl rfl ?_
        skip
        refine x_getI C fkX_X6_73 (nlt rfl) rfl dX6_takeNumber_28 ?_
        refine x_gen (fun v10 ev10 => ?_)
        have qv10 : ((-2147483648) : Int) ≤ v10 ∧ v10 ≤ (2147483647 : Int) := by
          rw [ev10]
          exact hH.rF (k := 21) (i := 8) rfl rfl
        refine x_callV (As := [.int (iI (2)), .int (iI (v10))]) C (by exact (c_note (F := F) (f := 2) (p := v10) ⟨by omega, by omega⟩ ⟨by omega, by omega⟩ hH FR.rf hL)) ckX6_79 im_X6_note se_X6_note (nlt rfl) rfl rfl rfl rfl (nle rfl) (by exact ⟨nle rfl, nle rfl⟩) dX6_takeNumber_31 ?_
        rintro _ Yy11 ⟨rfl, hHy11, hGy11, hLy11⟩
        have hFy11 : FR mdTN X0 Yy11 := FR.tr hF hGy11 (by decide)
        have hKy11 := hK.fr hGy11 rfl
        have pvy11 : v10 = ((s : Nat) : Int) := by have := hK.1; omega
        rw [pvy11] at hLy11
        refine Wx_st (st' := []) rfl ?_
        refine x_aload_n (i := 0) C dX6_takeNumber_34 rfl rfl ?_
        refine x_callV (As := []) C (by exact (c_adv (s := s) (hT0.fr hFy11 rfl) hHy11 hKy11 FR.rf)) ckX6_54 im_X6_advance se_X6_advance (nlt rfl) rfl rfl rfl rfl (nle rfl) (by exact ⟨nle rfl, nle rfl⟩) dX6_takeNumber_35 ?_
        rintro _ Yy12 ⟨rfl, hHy12, hGy12, hKy12⟩
        have hFy12 : FR mdTN X0 Yy12 := FR.tr hFy11 hGy12 (by decide)
        have hLy12 := hLy11.fr hGy12 rfl
        refine Wx_st (st' := []) rfl ?_
        refine x_iload_n (i := 3) C dX6_takeNumber_38 rfl rfl ?_
        exact x_iret C hQ dX6_takeNumber_39 (⟨_, rfl, by unfold tnV; rw [if_pos k2]; omega, hHy12, hFy12, by unfold tnS; rw [if_pos k2]; exact hKy12, by unfold tnF; rw [if_pos k2, if_pos (by omega)]; exact hLy12⟩)
  · have k2 : ¬ tK b N s = 2 := by have := hK.2.1; omega
    refine x_iconst C dX6_takeNumber_8 ?_
    exact x_iret C hQ dX6_takeNumber_9 (⟨_, rfl, by unfold tnV; rw [if_neg k2], hH, hF, by unfold tnS; rw [if_neg k2]; exact hK, by unfold tnF; rw [if_neg k2]; exact hL⟩)
set_option maxHeartbeats 4000000 in
set_option maxRecDepth 100000 in
theorem c_takeMark {D : va_G} {ad : Nat → Nat} {cA : Nat → ClassId} {X0 : XT} {b : Nat → Int} {N : Nat} (hT0 : TPX b N X0) (hH : HG vX X0) {s : Nat} (hF : FR mdAD X0 X0) (hK : TKX b N s X0) : MetX (wX D ad cA) yX6_takeMark cX6_takeMark 1 (some .boolean) 2 42 [.ref 21] X0 (fun r X1 => ∃ u : Int, r = some (.int (iI u)) ∧ HG vX X1 ∧ FR mdAD X0 X1 ∧ ((u = 1 ∧ tK b N s = 3 ∧ TKX b N (nx b N s) X1) ∨ (u = 0 ∧ tK b N s ≠ 3 ∧ TKX b N s X1))) := by
  refine MetX.mk (own := RX6) (by decide +kernel) rfl (nle rfl) (fun E C hQ => ?_)
  refine Wx_lv (lv' := [(0, .ref 21)]) rfl ?_
  refine x_aload_n (i := 0) C dX6_takeMark_0 rfl rfl ?_
  refine x_getI C fkX_X6_61 (nlt rfl) rfl dX6_takeMark_1 ?_
  refine x_gen (fun v1 ev1 => ?_)
  have qv1 : ((-2147483648) : Int) ≤ v1 ∧ v1 ≤ (2147483647 : Int) := by
    rw [ev1]
    exact hH.rF (k := 21) (i := 7) rfl rfl
  refine x_iconst C dX6_takeMark_4 ?_
  refine x_icmp_eq (tgt := 10) C dX6_takeMark_5 (by decide) ⟨by omega, by omega⟩ ⟨by omega, by omega⟩ (fun h2 => ?_) (fun h2 => ?_)
  · refine x_aload_n (i := 0) C dX6_takeMark_10 rfl rfl ?_
    refine x_callV (As := []) C (by exact (c_adv (s := s) (hT0.fr hF rfl) hH hK FR.rf)) ckX6_54 im_X6_advance se_X6_advance (nlt rfl) rfl rfl rfl rfl (nle rfl) (by exact ⟨nle rfl, nle rfl⟩) dX6_takeMark_11 ?_
    rintro _ Yy3 ⟨rfl, hHy3, hGy3, hKy3⟩
    have hFy3 : FR mdAD X0 Yy3 := FR.tr hF hGy3 (by decide)
    refine Wx_st (st' := []) rfl ?_
    refine x_iconst C dX6_takeMark_14 ?_
    exact x_zret C hQ (by omega) dX6_takeMark_15 (⟨_, rfl, hHy3, hFy3, .inl ⟨rfl, by have := hK.2.1; omega, hKy3⟩⟩)
  · refine x_iconst C dX6_takeMark_8 ?_
    exact x_zret C hQ (by omega) dX6_takeMark_9 (⟨_, rfl, hH, hF, .inr ⟨rfl, by have := hK.2.1; omega, hK⟩⟩)
set_option maxHeartbeats 4000000 in
set_option maxRecDepth 100000 in
theorem c_isWordL {D : va_G} {ad : Nat → Nat} {cA : Nat → ClassId} {X0 : XT} {b : Nat → Int} {N : Nat} (hT0 : TPX b N X0) (hH : HG vX X0) {s i : Nat} (hi : i < 7) (hF : FR mdAD X0 X0) (hK : TKX b N s X0) (k1 : tK b N s = 1) (kl : (tE b N s : Int) - s = ((tzL.getD i 0 : Nat) : Int)) {E : ET} (C : CX E (wX D ad cA) cX6_isWord 3 RX6 (some .boolean) { frames := 5, cells := 0, slots := 0, locals := 106 }) (HS : SE E (wX D ad cA)) (hQ : EQ E (wX D ad cA) (fun r X1 => X1 = X0 ∧ ∃ u : Int, r = some (.int (iI u)) ∧ ((u = 1 ∧ isW b N i s) ∨ (u = 0 ∧ ¬ isW b N i s)))) : ∀ (n : Nat) (k : Int), (((tzL.getD i 0 : Nat) : Int) - k) < n → 0 ≤ k → k ≤ ((tzL.getD i 0 : Nat) : Int) → (∀ j : Nat, (j : Int) < k → b (s + j) = sBy i j) → Wx E (wX D ad cA) 3 (PX (wX D ad cA) X0) 28 [(2, .int (iI (k))), (0, .ref 21), (1, .ref (900 + i))] [] := by
  intro n
  induction n with
  | zero => intro k hn k0 kk1 hp; exfalso; omega
  | succ n ih =>
    intro k hn k0 kk1 hp
    have lb := tzL_bd i hi
    have ke := hK.2.1
    have ks := hK.1
    have kn := hK.2.2.1
    have te := tE_bd b N s hK.2.2.2.2
    have n6 := hT0.2.2.1
    refine x_iload_n (i := 2) C dX6_isWord_28 rfl rfl ?_
    refine x_aload_n (i := 1) C dX6_isWord_29 rfl rfl ?_
    refine x_callST (As := []) C HS hi (by exact (j_length (i := i) hi)) ckX6_160 im_J0_length_8abf5 se_J0_length_8abf5 rfl rfl (nle rfl) (by exact ⟨nle rfl, nle rfl⟩) dX6_isWord_30 ?_
    rintro _ Xv1 ⟨hxv1, v1, rfl, ev1⟩
    rw [hxv1]
    have bv1 := tzL_bd (i) hi
    refine Wx_st (st' := [.int (iI (v1)), .int (iI (k))]) rfl ?_
    refine x_icmp_ge (tgt := 63) C dX6_isWord_33 (by decide) ⟨by omega, by omega⟩ ⟨by omega, by omega⟩ (fun h2 => ?_) (fun h2 => ?_)
    · refine x_iconst C dX6_isWord_63 ?_
      exact x_zret C hQ (by omega) dX6_isWord_64 (⟨rfl, _, rfl, .inl ⟨rfl, k1, by omega, fun j hj => hp j (by omega)⟩⟩)
    · refine x_aload_n (i := 0) C dX6_isWord_36 rfl rfl ?_
      refine x_getRs (r := 2) C fkX_X6_25 (nlt rfl) rfl (hT0.fr hF rfl).1 dX6_isWord_37 ?_
      refine x_aload_n (i := 0) C dX6_isWord_40 rfl rfl ?_
      refine x_getI C fkX_X6_73 (nlt rfl) rfl dX6_isWord_41 ?_
      refine x_gen (fun v3 ev3 => ?_)
      have qv3 : ((-2147483648) : Int) ≤ v3 ∧ v3 ≤ (2147483647 : Int) := by
        rw [ev3]
        exact hH.rF (k := 21) (i := 8) rfl rfl
      refine x_iload_n (i := 2) C dX6_isWord_44 rfl rfl ?_
      refine x_iadd C dX6_isWord_45 ?_
      refine x_iald C (nlt rfl) rfl rfl (nle rfl) (by omega) (by omega) dX6_isWord_46 ?_
      refine x_gen (fun v4 ev4 => ?_)
      have qv4 : (0 : Int) ≤ v4 ∧ v4 ≤ (255 : Int) := by
        rw [ev4]
        exact hH.rA (k := 2) (n := 600) (p := (0, 255)) (nlt rfl) rfl (by decide +kernel) (by omega)
      have tv4 : v4 = b (v3 + k).toNat := by rw [ev4]; exact (hT0.fr hF rfl).2.2.2 _ (by omega)
      refine x_aload_n (i := 1) C dX6_isWord_47 rfl rfl ?_
      refine x_iload_n (i := 2) C dX6_isWord_48 rfl rfl ?_
      refine x_callST (As := [.int (iI (k))]) C HS hi (by exact (j_charAt (i := i) hi (k := k) (by omega) (by omega))) ckX6_163 im_J0_charAt_5068e se_J0_charAt_5068e rfl rfl (nle rfl) (by exact ⟨nle rfl, nle rfl⟩) dX6_isWord_49 ?_
      rintro _ Xv5 ⟨hxv5, v5, rfl, ev5⟩
      rw [hxv5]
      have cv5 := tzL_bd (i) hi
      have bv5 := sBy_bd (i) hi (k).toNat (by omega)
      rw [← ev5] at bv5
      refine Wx_st (st' := [.int (iI (v5)), .int (iI (v4))]) rfl ?_
      refine x_icmp_eq (tgt := 57) C dX6_isWord_52 (by decide) ⟨by omega, by omega⟩ ⟨by omega, by omega⟩ (fun h6 => ?_) (fun h6 => ?_)
      · refine x_iinc (lv' := [(2, .int (iI (k + 1))), (0, .ref 21), (1, .ref (900 + i))]) C dX6_isWord_57 rfl (nlt rfl) rfl ?_
        refine x_goto (tgt := 28) C dX6_isWord_60 (by decide) ?_
        refine Wx_pick [2, 0, 1] ?_
        refine Wx_lv (lv' := [(2, .int (iI (k + 1))), (0, .ref 21), (1, .ref (900 + i))]) rfl ?_
        exact ih _ (by omega) (by omega) (by omega) (fun j hj => by
          by_cases ej : j = k.toNat
          · subst ej
            rw [show b (s + k.toNat) = v4 by (rw [tv4]; congr 1; omega)]
            omega
          · exact hp j (by omega))
      · refine x_iconst C dX6_isWord_55 ?_
        exact x_zret C hQ (by omega) dX6_isWord_56 (⟨rfl, _, rfl, .inr ⟨rfl, fun q => by have q3 := q.2.2 k.toNat (by omega); rw [show b (s + k.toNat) = v4 by (rw [tv4]; congr 1; omega)] at q3; omega⟩⟩)
set_option maxHeartbeats 4000000 in
set_option maxRecDepth 100000 in
theorem c_isWord {D : va_G} {ad : Nat → Nat} {cA : Nat → ClassId} {X0 : XT} {b : Nat → Int} {N : Nat} (hT0 : TPX b N X0) (hH : HG vX X0) {s i : Nat} (hi : i < 7) (hF : FR mdAD X0 X0) (hK : TKX b N s X0) : MetS (wX D ad cA) yX6_isWord cX6_isWord 3 (some .boolean) 5 106 [.ref 21, .ref (900 + i)] X0 (fun r X1 => X1 = X0 ∧ ∃ u : Int, r = some (.int (iI u)) ∧ ((u = 1 ∧ isW b N i s) ∨ (u = 0 ∧ ¬ isW b N i s))) := by
  have lb := tzL_bd i hi
  have ke := hK.2.1
  have ks := hK.1
  have kn := hK.2.2.1
  have te := tE_bd b N s hK.2.2.2.2
  have n6 := hT0.2.2.1
  refine MetS.mk (own := RX6) (by decide +kernel) rfl (nle rfl) (fun E C HS hQ => ?_)
  refine Wx_lv (lv' := [(0, .ref 21), (1, .ref (900 + i))]) rfl ?_
  refine x_aload_n (i := 0) C dX6_isWord_0 rfl rfl ?_
  refine x_getI C fkX_X6_61 (nlt rfl) rfl dX6_isWord_1 ?_
  refine x_gen (fun v1 ev1 => ?_)
  have qv1 : ((-2147483648) : Int) ≤ v1 ∧ v1 ≤ (2147483647 : Int) := by
    rw [ev1]
    exact hH.rF (k := 21) (i := 7) rfl rfl
  refine x_iconst C dX6_isWord_4 ?_
  refine x_icmp_ne (tgt := 24) C dX6_isWord_5 (by decide) ⟨by omega, by omega⟩ ⟨by omega, by omega⟩ (fun h2 => ?_) (fun h2 => ?_)
  · refine x_iconst C dX6_isWord_24 ?_
    exact x_zret C hQ (by omega) dX6_isWord_25 (⟨rfl, _, rfl, .inr ⟨rfl, fun q => by have q1 := q.1; have q2 := q.2.1; omega⟩⟩)
  · refine x_aload_n (i := 0) C dX6_isWord_8 rfl rfl ?_
    refine x_getI C fkX_X6_39 (nlt rfl) rfl dX6_isWord_9 ?_
    refine x_gen (fun v3 ev3 => ?_)
    have qv3 : ((-2147483648) : Int) ≤ v3 ∧ v3 ≤ (2147483647 : Int) := by
      rw [ev3]
      exact hH.rF (k := 21) (i := 9) rfl rfl
    refine x_aload_n (i := 0) C dX6_isWord_12 rfl rfl ?_
    refine x_getI C fkX_X6_73 (nlt rfl) rfl dX6_isWord_13 ?_
    refine x_gen (fun v4 ev4 => ?_)
    have qv4 : ((-2147483648) : Int) ≤ v4 ∧ v4 ≤ (2147483647 : Int) := by
      rw [ev4]
      exact hH.rF (k := 21) (i := 8) rfl rfl
    refine x_isub C dX6_isWord_16 ?_
    refine x_aload_n (i := 1) C dX6_isWord_17 rfl rfl ?_
    refine x_callST (As := []) C HS hi (by exact (j_length (i := i) hi)) ckX6_160 im_J0_length_8abf5 se_J0_length_8abf5 rfl rfl (nle rfl) (by exact ⟨nle rfl, nle rfl⟩) dX6_isWord_18 ?_
    rintro _ Xv5 ⟨hxv5, v5, rfl, ev5⟩
    rw [hxv5]
    have bv5 := tzL_bd (i) hi
    refine Wx_st (st' := [.int (iI (v5)), .int (iI (v3 - v4))]) rfl ?_
    refine x_icmp_eq (tgt := 26) C dX6_isWord_21 (by decide) ⟨by omega, by omega⟩ ⟨by omega, by omega⟩ (fun h6 => ?_) (fun h6 => ?_)
    · refine x_iconst C dX6_isWord_26 ?_
      refine x_istore_n (i := 2) (lv' := [(2, .int (iI (0))), (0, .ref 21), (1, .ref (900 + i))]) C dX6_isWord_27 rfl (nlt rfl) rfl ?_
      refine Wx_pick [2, 0, 1] ?_
      refine Wx_lv (lv' := [(2, .int (iI (0))), (0, .ref 21), (1, .ref (900 + i))]) rfl ?_
      exact c_isWordL hT0 hH hi hF hK (by omega) (by omega) C HS hQ 12 0 (by omega) (by omega) (by omega) (fun j hj => by omega)
    · refine x_iconst C dX6_isWord_24 ?_
      exact x_zret C hQ (by omega) dX6_isWord_25 (⟨rfl, _, rfl, .inr ⟨rfl, fun q => by have q1 := q.1; have q2 := q.2.1; omega⟩⟩)
set_option maxHeartbeats 4000000 in
set_option maxRecDepth 100000 in
theorem c_lengthOf {D : va_G} {ad : Nat → Nat} {cA : Nat → ClassId} {X : XT} {r : Int64} : MetX (wX D ad cA) yX11_lengthOf cX11_lengthOf 2 (some .int) 0 0 [.long (r)] X (fun r1 X' => X' = X ∧ ∃ u : Int, r1 = some (.int (iI u)) ∧ u = lenL r ∧ 0 ≤ u ∧ u ≤ 15) := by
  refine MetX.mk (own := RX11) (by decide +kernel) rfl (nle rfl) (fun E C hQ => ?_)
  refine Wx_lv (lv' := [(0, .long (r))]) rfl ?_
  refine x_lload_n (i := 0) C dX11_lengthOf_0 rfl rfl ?_
  refine x_ldc2 C dX11_lengthOf_1 cnX11_287 ?_
  refine x_land C dX11_lengthOf_4 ?_
  refine x_genL (fun l1 el1 => ?_)
  refine x_l2i C dX11_lengthOf_5 ?_
  refine x_topi (fun v2 rv2 ev2 => ?_)
  unfold inR at rv2
  have lb := len_bd (r := r) rv2 (by rw [ev2, el1])
  exact x_iret C hQ dX11_lengthOf_6 (⟨rfl, _, rfl, lb.1, lb.2.1, lb.2.2⟩)
set_option maxHeartbeats 4000000 in
set_option maxRecDepth 100000 in
theorem c_withSign {D : va_G} {ad : Nat → Nat} {cA : Nat → ClassId} {X : XT} {r : Int64} {g : Int} (g0 : 0 ≤ g) (g1 : g ≤ 10) : MetX (wX D ad cA) yX11_withSign cX11_withSign 3 (some .long) 1 21 [.long (r), .int (iI (g))] X (fun r1 X' => X' = X ∧ r1 = some (.long (wsL r g))) := by
  refine MetX.mk (own := RX11) (by decide +kernel) rfl (nle rfl) (fun E C hQ => ?_)
  refine Wx_lv (lv' := [(0, .long (r)), (2, .int (iI (g)))]) rfl ?_
  refine x_lload_n (i := 0) C dX11_withSign_0 rfl rfl ?_
  refine x_iload_n (i := 2) C dX11_withSign_1 rfl rfl ?_
  refine x_i2l C dX11_withSign_2 ?_
  refine x_genL (fun l1 el1 => ?_)
  refine x_iconst C dX11_withSign_3 ?_
  refine x_lload_n (i := 0) C dX11_withSign_4 rfl rfl ?_
  refine x_callS (As := [.long (r)]) C (by exact (c_lengthOf (r := r))) ckX11_145 sm_X11_lengthOf rfl rfl (nle rfl) (by exact ⟨nle rfl, nle rfl⟩) dX11_withSign_5 ?_
  rintro _ Xv2 ⟨hxv2, v2, rfl, ev2, bv2, cv2⟩
  rw [hxv2]
  refine Wx_st (st' := [.int (iI (v2)), .int (iI (4)), .long (l1), .long (r)]) rfl ?_
  refine x_imul C dX11_withSign_8 ?_
  refine x_iconst C dX11_withSign_9 ?_
  refine x_iadd C dX11_withSign_10 ?_
  refine x_lshl C dX11_withSign_11 ?_
  refine x_genL (fun l3 el3 => ?_)
  refine x_lor C dX11_withSign_12 ?_
  refine x_genL (fun l4 el4 => ?_)
  refine x_lconst C dX11_withSign_13 ?_
  refine x_eqL (b := 1) rfl ?_
  refine x_ladd C dX11_withSign_14 ?_
  refine x_genL (fun l5 el5 => ?_)
  exact x_lret C hQ dX11_withSign_15 (⟨rfl, congrArg (fun z => some (Value.long z)) (by unfold wsL; rw [el5, el4, el3, el1, ev2])⟩)
