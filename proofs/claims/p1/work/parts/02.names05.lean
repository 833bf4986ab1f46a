theorem dX12_join_1 : decode cX12_join 1 = .ok (.istore_n 2, 1) := by decide +kernel
theorem dX12_join_2 : decode cX12_join 2 = .ok (.iload_n 2, 1) := by decide +kernel
theorem dX12_join_3 : decode cX12_join 3 = .ok (.iconst 5, 1) := by decide +kernel
theorem dX12_join_4 : decode cX12_join 4 = .ok (.if_icmp .ge 18, 3) := by decide +kernel
theorem dX12_join_7 : decode cX12_join 7 = .ok (.aload_n 1, 1) := by decide +kernel
theorem dX12_join_8 : decode cX12_join 8 = .ok (.iload_n 2, 1) := by decide +kernel
theorem dX12_join_9 : decode cX12_join 9 = .ok (.dup2, 1) := by decide +kernel
theorem dX12_join_10 : decode cX12_join 10 = .ok (.laload, 1) := by decide +kernel
theorem dX12_join_11 : decode cX12_join 11 = .ok (.aload_n 0, 1) := by decide +kernel
theorem dX12_join_12 : decode cX12_join 12 = .ok (.iload_n 2, 1) := by decide +kernel
theorem dX12_join_13 : decode cX12_join 13 = .ok (.laload, 1) := by decide +kernel
theorem dX12_join_14 : decode cX12_join 14 = .ok (.lor, 1) := by decide +kernel
theorem dX12_join_15 : decode cX12_join 15 = .ok (.lastore, 1) := by decide +kernel
theorem dX12_join_16 : decode cX12_join 16 = .ok (.iinc 2 1, 3) := by decide +kernel
theorem dX12_join_19 : decode cX12_join 19 = .ok (.goto (-17), 3) := by decide +kernel
theorem dX12_join_22 : decode cX12_join 22 = .ok (.return_, 1) := by decide +kernel
theorem dX12_isTurn_0 : decode cX12_isTurn 0 = .ok (.iload_n 0, 1) := by decide +kernel
theorem dX12_isTurn_1 : decode cX12_isTurn 1 = .ok (.bipush 6, 2) := by decide +kernel
theorem dX12_isTurn_3 : decode cX12_isTurn 3 = .ok (.if_icmp .eq 9, 3) := by decide +kernel
theorem dX12_isTurn_6 : decode cX12_isTurn 6 = .ok (.iload_n 0, 1) := by decide +kernel
theorem dX12_isTurn_7 : decode cX12_isTurn 7 = .ok (.bipush 7, 2) := by decide +kernel
theorem dX12_isTurn_9 : decode cX12_isTurn 9 = .ok (.if_icmp .ne 7, 3) := by decide +kernel
theorem dX12_isTurn_12 : decode cX12_isTurn 12 = .ok (.iconst 1, 1) := by decide +kernel
theorem dX12_isTurn_13 : decode cX12_isTurn 13 = .ok (.goto 4, 3) := by decide +kernel
theorem dX12_isTurn_16 : decode cX12_isTurn 16 = .ok (.iconst 0, 1) := by decide +kernel
theorem dX12_isTurn_17 : decode cX12_isTurn 17 = .ok (.ireturn, 1) := by decide +kernel
theorem dX12_quote_0 : decode cX12_quote 0 = .ok (.aload_n 1, 1) := by decide +kernel
theorem dX12_quote_1 : decode cX12_quote 1 = .ok (.aload_n 0, 1) := by decide +kernel
theorem dX12_quote_2 : decode cX12_quote 2 = .ok (.getfield 63, 3) := by decide +kernel
theorem dX12_quote_5 : decode cX12_quote 5 = .ok (.invokestatic 361, 3) := by decide +kernel
theorem dX12_quote_8 : decode cX12_quote 8 = .ok (.iconst 1, 1) := by decide +kernel
theorem dX12_quote_9 : decode cX12_quote 9 = .ok (.istore_n 3, 1) := by decide +kernel
theorem dX12_quote_10 : decode cX12_quote 10 = .ok (.iload_n 3, 1) := by decide +kernel
theorem dX12_quote_11 : decode cX12_quote 11 = .ok (.aload_n 0, 1) := by decide +kernel
theorem dX12_quote_12 : decode cX12_quote 12 = .ok (.getfield 60, 3) := by decide +kernel
theorem dX12_quote_15 : decode cX12_quote 15 = .ok (.iconst 0, 1) := by decide +kernel
theorem dX12_quote_16 : decode cX12_quote 16 = .ok (.iaload, 1) := by decide +kernel
theorem dX12_quote_17 : decode cX12_quote 17 = .ok (.if_icmp .gt 195, 3) := by decide +kernel
theorem dX12_quote_20 : decode cX12_quote 20 = .ok (.aload_n 0, 1) := by decide +kernel
theorem dX12_quote_21 : decode cX12_quote 21 = .ok (.getfield 60, 3) := by decide +kernel
theorem dX12_quote_24 : decode cX12_quote 24 = .ok (.iload_n 3, 1) := by decide +kernel
theorem dX12_quote_25 : decode cX12_quote 25 = .ok (.iaload, 1) := by decide +kernel
theorem dX12_quote_26 : decode cX12_quote 26 = .ok (.istore 4, 2) := by decide +kernel
theorem dX12_quote_28 : decode cX12_quote 28 = .ok (.iload_n 3, 1) := by decide +kernel
theorem dX12_quote_29 : decode cX12_quote 29 = .ok (.aload_n 0, 1) := by decide +kernel
theorem dX12_quote_30 : decode cX12_quote 30 = .ok (.getfield 60, 3) := by decide +kernel
theorem dX12_quote_33 : decode cX12_quote 33 = .ok (.iconst 0, 1) := by decide +kernel
theorem dX12_quote_34 : decode cX12_quote 34 = .ok (.iaload, 1) := by decide +kernel
theorem dX12_quote_35 : decode cX12_quote 35 = .ok (.if_icmp .ge 14, 3) := by decide +kernel
theorem dX12_quote_38 : decode cX12_quote 38 = .ok (.aload_n 0, 1) := by decide +kernel
theorem dX12_quote_39 : decode cX12_quote 39 = .ok (.getfield 60, 3) := by decide +kernel
theorem dX12_quote_42 : decode cX12_quote 42 = .ok (.iload_n 3, 1) := by decide +kernel
theorem dX12_quote_43 : decode cX12_quote 43 = .ok (.iconst 1, 1) := by decide +kernel
theorem dX12_quote_44 : decode cX12_quote 44 = .ok (.iadd, 1) := by decide +kernel
theorem dX12_quote_45 : decode cX12_quote 45 = .ok (.iaload, 1) := by decide +kernel
theorem dX12_quote_46 : decode cX12_quote 46 = .ok (.goto 4, 3) := by decide +kernel
theorem dX12_quote_49 : decode cX12_quote 49 = .ok (.iconst (-1), 1) := by decide +kernel
theorem dX12_quote_50 : decode cX12_quote 50 = .ok (.istore 5, 2) := by decide +kernel
theorem dX12_quote_52 : decode cX12_quote 52 = .ok (.iinc 3 1, 3) := by decide +kernel
theorem dX12_quote_55 : decode cX12_quote 55 = .ok (.iload 4, 2) := by decide +kernel
theorem dX12_quote_57 : decode cX12_quote 57 = .ok (.bipush 10, 2) := by decide +kernel
theorem dX12_quote_59 : decode cX12_quote 59 = .ok (.if_icmp .eq (-49), 3) := by decide +kernel
theorem dX12_quote_62 : decode cX12_quote 62 = .ok (.iload 4, 2) := by decide +kernel
theorem dX12_quote_64 : decode cX12_quote 64 = .ok (.invokestatic 364, 3) := by decide +kernel
theorem dX12_quote_67 : decode cX12_quote 67 = .ok (.ifCond .eq 20, 3) := by decide +kernel
theorem dX12_quote_70 : decode cX12_quote 70 = .ok (.iload 5, 2) := by decide +kernel
theorem dX12_quote_72 : decode cX12_quote 72 = .ok (.iconst (-1), 1) := by decide +kernel
theorem dX12_quote_73 : decode cX12_quote 73 = .ok (.if_icmp .eq (-63), 3) := by decide +kernel
theorem dX12_quote_76 : decode cX12_quote 76 = .ok (.iload 5, 2) := by decide +kernel
theorem dX12_quote_78 : decode cX12_quote 78 = .ok (.invokestatic 364, 3) := by decide +kernel
theorem dX12_quote_81 : decode cX12_quote 81 = .ok (.ifCond .eq 6, 3) := by decide +kernel
theorem dX12_quote_84 : decode cX12_quote 84 = .ok (.goto (-74), 3) := by decide +kernel
theorem dX12_quote_87 : decode cX12_quote 87 = .ok (.iload 4, 2) := by decide +kernel
theorem dX12_quote_89 : decode cX12_quote 89 = .ok (.invokestatic 364, 3) := by decide +kernel
theorem dX12_quote_92 : decode cX12_quote 92 = .ok (.ifCond .eq 6, 3) := by decide +kernel
theorem dX12_quote_95 : decode cX12_quote 95 = .ok (.iinc 3 1, 3) := by decide +kernel
theorem dX12_quote_98 : decode cX12_quote 98 = .ok (.iload 4, 2) := by decide +kernel
theorem dX12_quote_100 : decode cX12_quote 100 = .ok (.invokestatic 364, 3) := by decide +kernel
theorem dX12_quote_103 : decode cX12_quote 103 = .ok (.ifCond .eq 13, 3) := by decide +kernel
theorem dX12_quote_106 : decode cX12_quote 106 = .ok (.iload 5, 2) := by decide +kernel
theorem dX12_quote_108 : decode cX12_quote 108 = .ok (.bipush 10, 2) := by decide +kernel
theorem dX12_quote_110 : decode cX12_quote 110 = .ok (.if_icmp .ne 6, 3) := by decide +kernel
theorem dX12_quote_113 : decode cX12_quote 113 = .ok (.goto (-103), 3) := by decide +kernel
theorem dX12_quote_116 : decode cX12_quote 116 = .ok (.iload 4, 2) := by decide +kernel
theorem dX12_quote_118 : decode cX12_quote 118 = .ok (.bipush 7, 2) := by decide +kernel
theorem dX12_quote_120 : decode cX12_quote 120 = .ok (.if_icmp .ne 20, 3) := by decide +kernel
theorem dX12_quote_123 : decode cX12_quote 123 = .ok (.aload_n 0, 1) := by decide +kernel
theorem dX12_quote_124 : decode cX12_quote 124 = .ok (.iload 5, 2) := by decide +kernel
theorem dX12_quote_126 : decode cX12_quote 126 = .ok (.aload_n 0, 1) := by decide +kernel
theorem dX12_quote_127 : decode cX12_quote 127 = .ok (.getfield 63, 3) := by decide +kernel
theorem dX12_quote_130 : decode cX12_quote 130 = .ok (.aload_n 0, 1) := by decide +kernel
theorem dX12_quote_131 : decode cX12_quote 131 = .ok (.getfield 66, 3) := by decide +kernel
theorem dX12_quote_134 : decode cX12_quote 134 = .ok (.invokevirtual 367, 3) := by decide +kernel
theorem dX12_quote_137 : decode cX12_quote 137 = .ok (.goto 29, 3) := by decide +kernel
theorem dX12_quote_140 : decode cX12_quote 140 = .ok (.aload_n 0, 1) := by decide +kernel
theorem dX12_quote_141 : decode cX12_quote 141 = .ok (.iload 4, 2) := by decide +kernel
theorem dX12_quote_143 : decode cX12_quote 143 = .ok (.bipush 6, 2) := by decide +kernel
theorem dX12_quote_145 : decode cX12_quote 145 = .ok (.if_icmp .ne 8, 3) := by decide +kernel
theorem dX12_quote_148 : decode cX12_quote 148 = .ok (.iload 5, 2) := by decide +kernel
theorem dX12_quote_150 : decode cX12_quote 150 = .ok (.goto 5, 3) := by decide +kernel
theorem dX12_quote_153 : decode cX12_quote 153 = .ok (.iload 4, 2) := by decide +kernel
theorem dX12_quote_155 : decode cX12_quote 155 = .ok (.aload_n 0, 1) := by decide +kernel
theorem dX12_quote_156 : decode cX12_quote 156 = .ok (.getfield 63, 3) := by decide +kernel
theorem dX12_quote_159 : decode cX12_quote 159 = .ok (.aload_n 0, 1) := by decide +kernel
theorem dX12_quote_160 : decode cX12_quote 160 = .ok (.getfield 66, 3) := by decide +kernel
theorem dX12_quote_163 : decode cX12_quote 163 = .ok (.invokevirtual 349, 3) := by decide +kernel
theorem dX12_quote_166 : decode cX12_quote 166 = .ok (.iload 4, 2) := by decide +kernel
theorem dX12_quote_168 : decode cX12_quote 168 = .ok (.bipush 6, 2) := by decide +kernel
theorem dX12_quote_170 : decode cX12_quote 170 = .ok (.if_icmp .ne 28, 3) := by decide +kernel
theorem dX12_quote_173 : decode cX12_quote 173 = .ok (.aload_n 0, 1) := by decide +kernel
theorem dX12_quote_174 : decode cX12_quote 174 = .ok (.getfield 66, 3) := by decide +kernel
theorem dX12_quote_177 : decode cX12_quote 177 = .ok (.aload_n 0, 1) := by decide +kernel
theorem dX12_quote_178 : decode cX12_quote 178 = .ok (.getfield 57, 3) := by decide +kernel
theorem dX12_quote_181 : decode cX12_quote 181 = .ok (.invokestatic 361, 3) := by decide +kernel
theorem dX12_quote_184 : decode cX12_quote 184 = .ok (.aload_n 0, 1) := by decide +kernel
theorem dX12_quote_185 : decode cX12_quote 185 = .ok (.iload 5, 2) := by decide +kernel
theorem dX12_quote_187 : decode cX12_quote 187 = .ok (.aload_n 0, 1) := by decide +kernel
theorem dX12_quote_188 : decode cX12_quote 188 = .ok (.getfield 57, 3) := by decide +kernel
theorem dX12_quote_191 : decode cX12_quote 191 = .ok (.aload_n 0, 1) := by decide +kernel
theorem dX12_quote_192 : decode cX12_quote 192 = .ok (.getfield 66, 3) := by decide +kernel
theorem dX12_quote_195 : decode cX12_quote 195 = .ok (.invokevirtual 349, 3) := by decide +kernel
theorem dX12_quote_198 : decode cX12_quote 198 = .ok (.aload_n 0, 1) := by decide +kernel
theorem dX12_quote_199 : decode cX12_quote 199 = .ok (.getfield 66, 3) := by decide +kernel
theorem dX12_quote_202 : decode cX12_quote 202 = .ok (.aload_n 0, 1) := by decide +kernel
theorem dX12_quote_203 : decode cX12_quote 203 = .ok (.getfield 63, 3) := by decide +kernel
theorem dX12_quote_206 : decode cX12_quote 206 = .ok (.invokestatic 361, 3) := by decide +kernel
theorem dX12_quote_209 : decode cX12_quote 209 = .ok (.goto (-199), 3) := by decide +kernel
theorem dX12_quote_212 : decode cX12_quote 212 = .ok (.aload_n 0, 1) := by decide +kernel
theorem dX12_quote_213 : decode cX12_quote 213 = .ok (.getfield 63, 3) := by decide +kernel
theorem dX12_quote_216 : decode cX12_quote 216 = .ok (.aload_n 2, 1) := by decide +kernel
theorem dX12_quote_217 : decode cX12_quote 217 = .ok (.invokestatic 361, 3) := by decide +kernel
theorem dX12_quote_220 : decode cX12_quote 220 = .ok (.return_, 1) := by decide +kernel
theorem dX12_any_0 : decode cX12_any 0 = .ok (.iload_n 1, 1) := by decide +kernel
theorem dX12_any_1 : decode cX12_any 1 = .ok (.bipush 10, 2) := by decide +kernel
theorem dX12_any_3 : decode cX12_any 3 = .ok (.if_icmp .ne 12, 3) := by decide +kernel
theorem dX12_any_6 : decode cX12_any 6 = .ok (.aload_n 0, 1) := by decide +kernel
theorem dX12_any_7 : decode cX12_any 7 = .ok (.aload_n 2, 1) := by decide +kernel
theorem dX12_any_8 : decode cX12_any 8 = .ok (.aload_n 3, 1) := by decide +kernel
theorem dX12_any_9 : decode cX12_any 9 = .ok (.invokevirtual 370, 3) := by decide +kernel
theorem dX12_any_12 : decode cX12_any 12 = .ok (.goto 10, 3) := by decide +kernel
theorem dX12_any_15 : decode cX12_any 15 = .ok (.aload_n 0, 1) := by decide +kernel
theorem dX12_any_16 : decode cX12_any 16 = .ok (.iload_n 1, 1) := by decide +kernel
theorem dX12_any_17 : decode cX12_any 17 = .ok (.aload_n 2, 1) := by decide +kernel
theorem dX12_any_18 : decode cX12_any 18 = .ok (.aload_n 3, 1) := by decide +kernel
theorem dX12_any_19 : decode cX12_any 19 = .ok (.invokevirtual 349, 3) := by decide +kernel
theorem dX12_any_22 : decode cX12_any 22 = .ok (.return_, 1) := by decide +kernel
theorem dX12_maybeQuote_0 : decode cX12_maybeQuote 0 = .ok (.aload_n 2, 1) := by decide +kernel
theorem dX12_maybeQuote_1 : decode cX12_maybeQuote 1 = .ok (.invokestatic 331, 3) := by decide +kernel
theorem dX12_maybeQuote_4 : decode cX12_maybeQuote 4 = .ok (.iconst 0, 1) := by decide +kernel
theorem dX12_maybeQuote_5 : decode cX12_maybeQuote 5 = .ok (.istore_n 3, 1) := by decide +kernel
theorem dX12_maybeQuote_6 : decode cX12_maybeQuote 6 = .ok (.iload_n 3, 1) := by decide +kernel
theorem dX12_maybeQuote_7 : decode cX12_maybeQuote 7 = .ok (.iconst 5, 1) := by decide +kernel
theorem dX12_maybeQuote_8 : decode cX12_maybeQuote 8 = .ok (.if_icmp .ge 126, 3) := by decide +kernel
theorem dX12_maybeQuote_11 : decode cX12_maybeQuote 11 = .ok (.iconst 0, 1) := by decide +kernel
theorem dX12_maybeQuote_12 : decode cX12_maybeQuote 12 = .ok (.istore 4, 2) := by decide +kernel
theorem dX12_maybeQuote_14 : decode cX12_maybeQuote 14 = .ok (.iload 4, 2) := by decide +kernel
theorem dX12_maybeQuote_16 : decode cX12_maybeQuote 16 = .ok (.aload_n 0, 1) := by decide +kernel
theorem dX12_maybeQuote_17 : decode cX12_maybeQuote 17 = .ok (.getfield 284, 3) := by decide +kernel
theorem dX12_maybeQuote_20 : decode cX12_maybeQuote 20 = .ok (.if_icmp .ge 108, 3) := by decide +kernel
theorem dX12_maybeQuote_23 : decode cX12_maybeQuote 23 = .ok (.aload_n 1, 1) := by decide +kernel
theorem dX12_maybeQuote_24 : decode cX12_maybeQuote 24 = .ok (.iload_n 3, 1) := by decide +kernel
theorem dX12_maybeQuote_25 : decode cX12_maybeQuote 25 = .ok (.laload, 1) := by decide +kernel
theorem dX12_maybeQuote_26 : decode cX12_maybeQuote 26 = .ok (.iload 4, 2) := by decide +kernel
theorem dX12_maybeQuote_28 : decode cX12_maybeQuote 28 = .ok (.invokestatic 299, 3) := by decide +kernel
theorem dX12_maybeQuote_31 : decode cX12_maybeQuote 31 = .ok (.ifCond .eq 91, 3) := by decide +kernel
theorem dX12_maybeQuote_34 : decode cX12_maybeQuote 34 = .ok (.aload_n 0, 1) := by decide +kernel
theorem dX12_maybeQuote_35 : decode cX12_maybeQuote 35 = .ok (.getfield 328, 3) := by decide +kernel
theorem dX12_maybeQuote_38 : decode cX12_maybeQuote 38 = .ok (.lstore 5, 2) := by decide +kernel
theorem dX12_maybeQuote_40 : decode cX12_maybeQuote 40 = .ok (.aload_n 0, 1) := by decide +kernel
theorem dX12_maybeQuote_41 : decode cX12_maybeQuote 41 = .ok (.lconst 0, 1) := by decide +kernel
theorem dX12_maybeQuote_42 : decode cX12_maybeQuote 42 = .ok (.putfield 328, 3) := by decide +kernel
theorem dX12_maybeQuote_45 : decode cX12_maybeQuote 45 = .ok (.aload_n 0, 1) := by decide +kernel
theorem dX12_maybeQuote_46 : decode cX12_maybeQuote 46 = .ok (.getfield 69, 3) := by decide +kernel
theorem dX12_maybeQuote_49 : decode cX12_maybeQuote 49 = .ok (.invokestatic 331, 3) := by decide +kernel
theorem dX12_maybeQuote_52 : decode cX12_maybeQuote 52 = .ok (.aload_n 0, 1) := by decide +kernel
theorem dX12_maybeQuote_53 : decode cX12_maybeQuote 53 = .ok (.getfield 69, 3) := by decide +kernel
theorem dX12_maybeQuote_56 : decode cX12_maybeQuote 56 = .ok (.iload_n 3, 1) := by decide +kernel
theorem dX12_maybeQuote_57 : decode cX12_maybeQuote 57 = .ok (.lconst 1, 1) := by decide +kernel
theorem dX12_maybeQuote_58 : decode cX12_maybeQuote 58 = .ok (.iload 4, 2) := by decide +kernel
theorem dX12_maybeQuote_60 : decode cX12_maybeQuote 60 = .ok (.lshl, 1) := by decide +kernel
theorem dX12_maybeQuote_61 : decode cX12_maybeQuote 61 = .ok (.lastore, 1) := by decide +kernel
theorem dX12_maybeQuote_62 : decode cX12_maybeQuote 62 = .ok (.aload_n 0, 1) := by decide +kernel
theorem dX12_maybeQuote_63 : decode cX12_maybeQuote 63 = .ok (.aload_n 0, 1) := by decide +kernel
theorem dX12_maybeQuote_64 : decode cX12_maybeQuote 64 = .ok (.getfield 69, 3) := by decide +kernel
theorem dX12_maybeQuote_67 : decode cX12_maybeQuote 67 = .ok (.aload_n 0, 1) := by decide +kernel
theorem dX12_maybeQuote_68 : decode cX12_maybeQuote 68 = .ok (.getfield 72, 3) := by decide +kernel
theorem dX12_maybeQuote_71 : decode cX12_maybeQuote 71 = .ok (.invokevirtual 370, 3) := by decide +kernel
theorem dX12_maybeQuote_74 : decode cX12_maybeQuote 74 = .ok (.aload_n 0, 1) := by decide +kernel
theorem dX12_maybeQuote_75 : decode cX12_maybeQuote 75 = .ok (.getfield 328, 3) := by decide +kernel
theorem dX12_maybeQuote_78 : decode cX12_maybeQuote 78 = .ok (.lconst 0, 1) := by decide +kernel
theorem dX12_maybeQuote_79 : decode cX12_maybeQuote 79 = .ok (.lcmp, 1) := by decide +kernel
theorem dX12_maybeQuote_80 : decode cX12_maybeQuote 80 = .ok (.ifCond .ne 23, 3) := by decide +kernel
theorem dX12_maybeQuote_83 : decode cX12_maybeQuote 83 = .ok (.aload_n 0, 1) := by decide +kernel
theorem dX12_maybeQuote_84 : decode cX12_maybeQuote 84 = .ok (.getfield 72, 3) := by decide +kernel
theorem dX12_maybeQuote_87 : decode cX12_maybeQuote 87 = .ok (.invokestatic 353, 3) := by decide +kernel
theorem dX12_maybeQuote_90 : decode cX12_maybeQuote 90 = .ok (.ifCond .eq 13, 3) := by decide +kernel
theorem dX12_maybeQuote_93 : decode cX12_maybeQuote 93 = .ok (.aload_n 2, 1) := by decide +kernel
theorem dX12_maybeQuote_94 : decode cX12_maybeQuote 94 = .ok (.iload_n 3, 1) := by decide +kernel
theorem dX12_maybeQuote_95 : decode cX12_maybeQuote 95 = .ok (.dup2, 1) := by decide +kernel
theorem dX12_maybeQuote_96 : decode cX12_maybeQuote 96 = .ok (.laload, 1) := by decide +kernel
theorem dX12_maybeQuote_97 : decode cX12_maybeQuote 97 = .ok (.lconst 1, 1) := by decide +kernel
theorem dX12_maybeQuote_98 : decode cX12_maybeQuote 98 = .ok (.iload 4, 2) := by decide +kernel
theorem dX12_maybeQuote_100 : decode cX12_maybeQuote 100 = .ok (.lshl, 1) := by decide +kernel
theorem dX12_maybeQuote_101 : decode cX12_maybeQuote 101 = .ok (.lor, 1) := by decide +kernel
theorem dX12_maybeQuote_102 : decode cX12_maybeQuote 102 = .ok (.lastore, 1) := by decide +kernel
theorem dX12_maybeQuote_103 : decode cX12_maybeQuote 103 = .ok (.aload_n 0, 1) := by decide +kernel
theorem dX12_maybeQuote_104 : decode cX12_maybeQuote 104 = .ok (.getfield 72, 3) := by decide +kernel
theorem dX12_maybeQuote_107 : decode cX12_maybeQuote 107 = .ok (.aload_n 2, 1) := by decide +kernel
theorem dX12_maybeQuote_108 : decode cX12_maybeQuote 108 = .ok (.invokestatic 357, 3) := by decide +kernel
theorem dX12_maybeQuote_111 : decode cX12_maybeQuote 111 = .ok (.aload_n 0, 1) := by decide +kernel
theorem dX12_maybeQuote_112 : decode cX12_maybeQuote 112 = .ok (.dup, 1) := by decide +kernel
theorem dX12_maybeQuote_113 : decode cX12_maybeQuote 113 = .ok (.getfield 328, 3) := by decide +kernel
theorem dX12_maybeQuote_116 : decode cX12_maybeQuote 116 = .ok (.lload 5, 2) := by decide +kernel
theorem dX12_maybeQuote_118 : decode cX12_maybeQuote 118 = .ok (.lor, 1) := by decide +kernel
theorem dX12_maybeQuote_119 : decode cX12_maybeQuote 119 = .ok (.putfield 328, 3) := by decide +kernel
theorem dX12_maybeQuote_122 : decode cX12_maybeQuote 122 = .ok (.iinc 4 1, 3) := by decide +kernel
theorem dX12_maybeQuote_125 : decode cX12_maybeQuote 125 = .ok (.goto (-111), 3) := by decide +kernel
theorem dX12_maybeQuote_128 : decode cX12_maybeQuote 128 = .ok (.iinc 3 1, 3) := by decide +kernel
theorem dX12_maybeQuote_131 : decode cX12_maybeQuote 131 = .ok (.goto (-125), 3) := by decide +kernel
theorem dX12_maybeQuote_134 : decode cX12_maybeQuote 134 = .ok (.return_, 1) := by decide +kernel
theorem dX12_endsOf_0 : decode cX12_endsOf 0 = .ok (.aload_n 0, 1) := by decide +kernel
theorem dX12_endsOf_1 : decode cX12_endsOf 1 = .ok (.iload_n 1, 1) := by decide +kernel
theorem dX12_endsOf_2 : decode cX12_endsOf 2 = .ok (.invokevirtual 373, 3) := by decide +kernel
theorem dX12_endsOf_5 : decode cX12_endsOf 5 = .ok (.aload_n 0, 1) := by decide +kernel
theorem dX12_endsOf_6 : decode cX12_endsOf 6 = .ok (.aload_n 0, 1) := by decide +kernel
theorem dX12_endsOf_7 : decode cX12_endsOf 7 = .ok (.getfield 44, 3) := by decide +kernel
theorem dX12_endsOf_10 : decode cX12_endsOf 10 = .ok (.iload_n 1, 1) := by decide +kernel
theorem dX12_endsOf_11 : decode cX12_endsOf 11 = .ok (.iaload, 1) := by decide +kernel
theorem dX12_endsOf_12 : decode cX12_endsOf 12 = .ok (.invokevirtual 376, 3) := by decide +kernel
theorem dX12_endsOf_15 : decode cX12_endsOf 15 = .ok (.lreturn, 1) := by decide +kernel
theorem dX12_endsFrom_0 : decode cX12_endsFrom 0 = .ok (.aload_n 0, 1) := by decide +kernel
theorem dX12_endsFrom_1 : decode cX12_endsFrom 1 = .ok (.lconst 0, 1) := by decide +kernel
theorem dX12_endsFrom_2 : decode cX12_endsFrom 2 = .ok (.putfield 328, 3) := by decide +kernel
theorem dX12_endsFrom_5 : decode cX12_endsFrom 5 = .ok (.aload_n 0, 1) := by decide +kernel
theorem dX12_endsFrom_6 : decode cX12_endsFrom 6 = .ok (.getfield 78, 3) := by decide +kernel
theorem dX12_endsFrom_9 : decode cX12_endsFrom 9 = .ok (.invokestatic 331, 3) := by decide +kernel
theorem dX12_endsFrom_12 : decode cX12_endsFrom 12 = .ok (.aload_n 0, 1) := by decide +kernel
theorem dX12_endsFrom_13 : decode cX12_endsFrom 13 = .ok (.getfield 78, 3) := by decide +kernel
theorem dX12_endsFrom_16 : decode cX12_endsFrom 16 = .ok (.iconst 4, 1) := by decide +kernel
theorem dX12_endsFrom_17 : decode cX12_endsFrom 17 = .ok (.lconst 1, 1) := by decide +kernel
theorem dX12_endsFrom_18 : decode cX12_endsFrom 18 = .ok (.iload_n 1, 1) := by decide +kernel
theorem dX12_endsFrom_19 : decode cX12_endsFrom 19 = .ok (.lshl, 1) := by decide +kernel
theorem dX12_endsFrom_20 : decode cX12_endsFrom 20 = .ok (.lastore, 1) := by decide +kernel
theorem dX12_endsFrom_21 : decode cX12_endsFrom 21 = .ok (.iconst 1, 1) := by decide +kernel
theorem dX12_endsFrom_22 : decode cX12_endsFrom 22 = .ok (.istore_n 2, 1) := by decide +kernel
theorem dX12_endsFrom_23 : decode cX12_endsFrom 23 = .ok (.iload_n 2, 1) := by decide +kernel
theorem dX12_endsFrom_24 : decode cX12_endsFrom 24 = .ok (.aload_n 0, 1) := by decide +kernel
theorem dX12_endsFrom_25 : decode cX12_endsFrom 25 = .ok (.getfield 75, 3) := by decide +kernel
theorem dX12_endsFrom_28 : decode cX12_endsFrom 28 = .ok (.iconst 0, 1) := by decide +kernel
theorem dX12_endsFrom_29 : decode cX12_endsFrom 29 = .ok (.iaload, 1) := by decide +kernel
theorem dX12_endsFrom_30 : decode cX12_endsFrom 30 = .ok (.if_icmp .gt 174, 3) := by decide +kernel
theorem dX12_endsFrom_33 : decode cX12_endsFrom 33 = .ok (.aload_n 0, 1) := by decide +kernel
theorem dX12_endsFrom_34 : decode cX12_endsFrom 34 = .ok (.getfield 75, 3) := by decide +kernel
theorem dX12_endsFrom_37 : decode cX12_endsFrom 37 = .ok (.iload_n 2, 1) := by decide +kernel
theorem dX12_endsFrom_38 : decode cX12_endsFrom 38 = .ok (.iaload, 1) := by decide +kernel
theorem dX12_endsFrom_39 : decode cX12_endsFrom 39 = .ok (.istore_n 3, 1) := by decide +kernel
theorem dX12_endsFrom_40 : decode cX12_endsFrom 40 = .ok (.iload_n 2, 1) := by decide +kernel
theorem dX12_endsFrom_41 : decode cX12_endsFrom 41 = .ok (.aload_n 0, 1) := by decide +kernel
theorem dX12_endsFrom_42 : decode cX12_endsFrom 42 = .ok (.getfield 75, 3) := by decide +kernel
theorem dX12_endsFrom_45 : decode cX12_endsFrom 45 = .ok (.iconst 0, 1) := by decide +kernel
theorem dX12_endsFrom_46 : decode cX12_endsFrom 46 = .ok (.iaload, 1) := by decide +kernel
theorem dX12_endsFrom_47 : decode cX12_endsFrom 47 = .ok (.if_icmp .ge 14, 3) := by decide +kernel
theorem dX12_endsFrom_50 : decode cX12_endsFrom 50 = .ok (.aload_n 0, 1) := by decide +kernel
theorem dX12_endsFrom_51 : decode cX12_endsFrom 51 = .ok (.getfield 75, 3) := by decide +kernel
theorem dX12_endsFrom_54 : decode cX12_endsFrom 54 = .ok (.iload_n 2, 1) := by decide +kernel
theorem dX12_endsFrom_55 : decode cX12_endsFrom 55 = .ok (.iconst 1, 1) := by decide +kernel
theorem dX12_endsFrom_56 : decode cX12_endsFrom 56 = .ok (.iadd, 1) := by decide +kernel
theorem dX12_endsFrom_57 : decode cX12_endsFrom 57 = .ok (.iaload, 1) := by decide +kernel
theorem dX12_endsFrom_58 : decode cX12_endsFrom 58 = .ok (.goto 4, 3) := by decide +kernel
theorem dX12_endsFrom_61 : decode cX12_endsFrom 61 = .ok (.iconst (-1), 1) := by decide +kernel
theorem dX12_endsFrom_62 : decode cX12_endsFrom 62 = .ok (.istore 4, 2) := by decide +kernel
theorem dX12_endsFrom_64 : decode cX12_endsFrom 64 = .ok (.iinc 2 1, 3) := by decide +kernel
theorem dX12_endsFrom_67 : decode cX12_endsFrom 67 = .ok (.iload_n 3, 1) := by decide +kernel
theorem dX12_endsFrom_68 : decode cX12_endsFrom 68 = .ok (.invokestatic 364, 3) := by decide +kernel
theorem dX12_endsFrom_71 : decode cX12_endsFrom 71 = .ok (.ifCond .eq 20, 3) := by decide +kernel
theorem dX12_endsFrom_74 : decode cX12_endsFrom 74 = .ok (.iload 4, 2) := by decide +kernel
theorem dX12_endsFrom_76 : decode cX12_endsFrom 76 = .ok (.iconst (-1), 1) := by decide +kernel
theorem dX12_endsFrom_77 : decode cX12_endsFrom 77 = .ok (.if_icmp .eq (-54), 3) := by decide +kernel
theorem dX12_endsFrom_80 : decode cX12_endsFrom 80 = .ok (.iload 4, 2) := by decide +kernel
theorem dX12_endsFrom_82 : decode cX12_endsFrom 82 = .ok (.invokestatic 364, 3) := by decide +kernel
theorem dX12_endsFrom_85 : decode cX12_endsFrom 85 = .ok (.ifCond .eq 6, 3) := by decide +kernel
theorem dX12_endsFrom_88 : decode cX12_endsFrom 88 = .ok (.goto (-65), 3) := by decide +kernel
theorem dX12_endsFrom_91 : decode cX12_endsFrom 91 = .ok (.iload_n 3, 1) := by decide +kernel
theorem dX12_endsFrom_92 : decode cX12_endsFrom 92 = .ok (.invokestatic 364, 3) := by decide +kernel
theorem dX12_endsFrom_95 : decode cX12_endsFrom 95 = .ok (.ifCond .ne 19, 3) := by decide +kernel
theorem dX12_endsFrom_98 : decode cX12_endsFrom 98 = .ok (.aload_n 0, 1) := by decide +kernel
theorem dX12_endsFrom_99 : decode cX12_endsFrom 99 = .ok (.iload_n 3, 1) := by decide +kernel
theorem dX12_endsFrom_100 : decode cX12_endsFrom 100 = .ok (.aload_n 0, 1) := by decide +kernel
theorem dX12_endsFrom_101 : decode cX12_endsFrom 101 = .ok (.getfield 78, 3) := by decide +kernel
theorem dX12_endsFrom_104 : decode cX12_endsFrom 104 = .ok (.aload_n 0, 1) := by decide +kernel
theorem dX12_endsFrom_105 : decode cX12_endsFrom 105 = .ok (.getfield 81, 3) := by decide +kernel
theorem dX12_endsFrom_108 : decode cX12_endsFrom 108 = .ok (.invokevirtual 380, 3) := by decide +kernel
theorem dX12_endsFrom_111 : decode cX12_endsFrom 111 = .ok (.goto 79, 3) := by decide +kernel
theorem dX12_endsFrom_114 : decode cX12_endsFrom 114 = .ok (.iinc 2 1, 3) := by decide +kernel
theorem dX12_endsFrom_117 : decode cX12_endsFrom 117 = .ok (.iload_n 3, 1) := by decide +kernel
theorem dX12_endsFrom_118 : decode cX12_endsFrom 118 = .ok (.bipush 6, 2) := by decide +kernel
theorem dX12_endsFrom_120 : decode cX12_endsFrom 120 = .ok (.if_icmp .ne 34, 3) := by decide +kernel
theorem dX12_endsFrom_123 : decode cX12_endsFrom 123 = .ok (.aload_n 0, 1) := by decide +kernel
theorem dX12_endsFrom_124 : decode cX12_endsFrom 124 = .ok (.iload 4, 2) := by decide +kernel
theorem dX12_endsFrom_126 : decode cX12_endsFrom 126 = .ok (.aload_n 0, 1) := by decide +kernel
theorem dX12_endsFrom_127 : decode cX12_endsFrom 127 = .ok (.getfield 78, 3) := by decide +kernel
theorem dX12_endsFrom_130 : decode cX12_endsFrom 130 = .ok (.aload_n 0, 1) := by decide +kernel
theorem dX12_endsFrom_131 : decode cX12_endsFrom 131 = .ok (.getfield 84, 3) := by decide +kernel
theorem dX12_endsFrom_134 : decode cX12_endsFrom 134 = .ok (.invokevirtual 380, 3) := by decide +kernel
theorem dX12_endsFrom_137 : decode cX12_endsFrom 137 = .ok (.aload_n 0, 1) := by decide +kernel
theorem dX12_endsFrom_138 : decode cX12_endsFrom 138 = .ok (.iload 4, 2) := by decide +kernel
theorem dX12_endsFrom_140 : decode cX12_endsFrom 140 = .ok (.aload_n 0, 1) := by decide +kernel
theorem dX12_endsFrom_141 : decode cX12_endsFrom 141 = .ok (.getfield 84, 3) := by decide +kernel
theorem dX12_endsFrom_144 : decode cX12_endsFrom 144 = .ok (.aload_n 0, 1) := by decide +kernel
theorem dX12_endsFrom_145 : decode cX12_endsFrom 145 = .ok (.getfield 81, 3) := by decide +kernel
theorem dX12_endsFrom_148 : decode cX12_endsFrom 148 = .ok (.invokevirtual 380, 3) := by decide +kernel
theorem dX12_endsFrom_151 : decode cX12_endsFrom 151 = .ok (.goto 39, 3) := by decide +kernel
theorem dX12_endsFrom_154 : decode cX12_endsFrom 154 = .ok (.iload 4, 2) := by decide +kernel
theorem dX12_endsFrom_156 : decode cX12_endsFrom 156 = .ok (.bipush 10, 2) := by decide +kernel
theorem dX12_endsFrom_158 : decode cX12_endsFrom 158 = .ok (.if_icmp .ne 18, 3) := by decide +kernel
theorem dX12_endsFrom_161 : decode cX12_endsFrom 161 = .ok (.aload_n 0, 1) := by decide +kernel
theorem dX12_endsFrom_162 : decode cX12_endsFrom 162 = .ok (.aload_n 0, 1) := by decide +kernel
theorem dX12_endsFrom_163 : decode cX12_endsFrom 163 = .ok (.getfield 78, 3) := by decide +kernel
theorem dX12_endsFrom_166 : decode cX12_endsFrom 166 = .ok (.aload_n 0, 1) := by decide +kernel
theorem dX12_endsFrom_167 : decode cX12_endsFrom 167 = .ok (.getfield 81, 3) := by decide +kernel
theorem dX12_endsFrom_170 : decode cX12_endsFrom 170 = .ok (.invokevirtual 383, 3) := by decide +kernel
theorem dX12_endsFrom_173 : decode cX12_endsFrom 173 = .ok (.goto 17, 3) := by decide +kernel
theorem dX12_endsFrom_176 : decode cX12_endsFrom 176 = .ok (.aload_n 0, 1) := by decide +kernel
theorem dX12_endsFrom_177 : decode cX12_endsFrom 177 = .ok (.iload 4, 2) := by decide +kernel
theorem dX12_endsFrom_179 : decode cX12_endsFrom 179 = .ok (.aload_n 0, 1) := by decide +kernel
theorem dX12_endsFrom_180 : decode cX12_endsFrom 180 = .ok (.getfield 78, 3) := by decide +kernel
theorem dX12_endsFrom_183 : decode cX12_endsFrom 183 = .ok (.aload_n 0, 1) := by decide +kernel
theorem dX12_endsFrom_184 : decode cX12_endsFrom 184 = .ok (.getfield 81, 3) := by decide +kernel
theorem dX12_endsFrom_187 : decode cX12_endsFrom 187 = .ok (.invokevirtual 367, 3) := by decide +kernel
theorem dX12_endsFrom_190 : decode cX12_endsFrom 190 = .ok (.aload_n 0, 1) := by decide +kernel
theorem dX12_endsFrom_191 : decode cX12_endsFrom 191 = .ok (.getfield 81, 3) := by decide +kernel
theorem dX12_endsFrom_194 : decode cX12_endsFrom 194 = .ok (.aload_n 0, 1) := by decide +kernel
theorem dX12_endsFrom_195 : decode cX12_endsFrom 195 = .ok (.getfield 78, 3) := by decide +kernel
theorem dX12_endsFrom_198 : decode cX12_endsFrom 198 = .ok (.invokestatic 361, 3) := by decide +kernel
theorem dX12_endsFrom_201 : decode cX12_endsFrom 201 = .ok (.goto (-178), 3) := by decide +kernel
theorem dX12_endsFrom_204 : decode cX12_endsFrom 204 = .ok (.aload_n 0, 1) := by decide +kernel
theorem dX12_endsFrom_205 : decode cX12_endsFrom 205 = .ok (.getfield 328, 3) := by decide +kernel
theorem dX12_endsFrom_208 : decode cX12_endsFrom 208 = .ok (.lstore_n 3, 1) := by decide +kernel
theorem dX12_endsFrom_209 : decode cX12_endsFrom 209 = .ok (.iconst 0, 1) := by decide +kernel
theorem dX12_endsFrom_210 : decode cX12_endsFrom 210 = .ok (.istore 5, 2) := by decide +kernel
theorem dX12_endsFrom_212 : decode cX12_endsFrom 212 = .ok (.iload 5, 2) := by decide +kernel
theorem dX12_endsFrom_214 : decode cX12_endsFrom 214 = .ok (.iconst 5, 1) := by decide +kernel
theorem dX12_endsFrom_215 : decode cX12_endsFrom 215 = .ok (.if_icmp .ge 19, 3) := by decide +kernel
theorem dX12_endsFrom_218 : decode cX12_endsFrom 218 = .ok (.lload_n 3, 1) := by decide +kernel
theorem dX12_endsFrom_219 : decode cX12_endsFrom 219 = .ok (.aload_n 0, 1) := by decide +kernel
theorem dX12_endsFrom_220 : decode cX12_endsFrom 220 = .ok (.getfield 78, 3) := by decide +kernel
theorem dX12_endsFrom_223 : decode cX12_endsFrom 223 = .ok (.iload 5, 2) := by decide +kernel
theorem dX12_endsFrom_225 : decode cX12_endsFrom 225 = .ok (.laload, 1) := by decide +kernel
theorem dX12_endsFrom_226 : decode cX12_endsFrom 226 = .ok (.lor, 1) := by decide +kernel
theorem dX12_endsFrom_227 : decode cX12_endsFrom 227 = .ok (.lstore_n 3, 1) := by decide +kernel
theorem dX12_endsFrom_228 : decode cX12_endsFrom 228 = .ok (.iinc 5 1, 3) := by decide +kernel
theorem dX12_endsFrom_231 : decode cX12_endsFrom 231 = .ok (.goto (-19), 3) := by decide +kernel
theorem dX12_endsFrom_234 : decode cX12_endsFrom 234 = .ok (.lload_n 3, 1) := by decide +kernel
theorem dX12_endsFrom_235 : decode cX12_endsFrom 235 = .ok (.lreturn, 1) := by decide +kernel
theorem dX12_layRule_0 : decode cX12_layRule 0 = .ok (.iconst 0, 1) := by decide +kernel
theorem dX12_layRule_1 : decode cX12_layRule 1 = .ok (.istore_n 2, 1) := by decide +kernel
theorem dX12_layRule_2 : decode cX12_layRule 2 = .ok (.iload_n 2, 1) := by decide +kernel
theorem dX12_layRule_3 : decode cX12_layRule 3 = .ok (.bipush 10, 2) := by decide +kernel
theorem dX12_layRule_5 : decode cX12_layRule 5 = .ok (.if_icmp .ge 26, 3) := by decide +kernel
theorem dX12_layRule_8 : decode cX12_layRule 8 = .ok (.aload_n 0, 1) := by decide +kernel
theorem dX12_layRule_9 : decode cX12_layRule 9 = .ok (.getfield 75, 3) := by decide +kernel
theorem dX12_layRule_12 : decode cX12_layRule 12 = .ok (.iload_n 2, 1) := by decide +kernel
theorem dX12_layRule_13 : decode cX12_layRule 13 = .ok (.aload_n 0, 1) := by decide +kernel
theorem dX12_layRule_14 : decode cX12_layRule 14 = .ok (.getfield 29, 3) := by decide +kernel
theorem dX12_layRule_17 : decode cX12_layRule 17 = .ok (.bipush 10, 2) := by decide +kernel
theorem dX12_layRule_19 : decode cX12_layRule 19 = .ok (.iload_n 1, 1) := by decide +kernel
theorem dX12_layRule_20 : decode cX12_layRule 20 = .ok (.imul, 1) := by decide +kernel
theorem dX12_layRule_21 : decode cX12_layRule 21 = .ok (.iload_n 2, 1) := by decide +kernel
theorem dX12_layRule_22 : decode cX12_layRule 22 = .ok (.iadd, 1) := by decide +kernel
theorem dX12_layRule_23 : decode cX12_layRule 23 = .ok (.iaload, 1) := by decide +kernel
theorem dX12_layRule_24 : decode cX12_layRule 24 = .ok (.iastore, 1) := by decide +kernel
theorem dX12_layRule_25 : decode cX12_layRule 25 = .ok (.iinc 2 1, 3) := by decide +kernel
theorem dX12_layRule_28 : decode cX12_layRule 28 = .ok (.goto (-26), 3) := by decide +kernel
theorem dX12_layRule_31 : decode cX12_layRule 31 = .ok (.aload_n 0, 1) := by decide +kernel
theorem dX12_layRule_32 : decode cX12_layRule 32 = .ok (.getfield 60, 3) := by decide +kernel
theorem dX12_layRule_35 : decode cX12_layRule 35 = .ok (.iconst 0, 1) := by decide +kernel
theorem dX12_layRule_36 : decode cX12_layRule 36 = .ok (.iconst 0, 1) := by decide +kernel
theorem dX12_layRule_37 : decode cX12_layRule 37 = .ok (.iastore, 1) := by decide +kernel
theorem dX12_layRule_38 : decode cX12_layRule 38 = .ok (.return_, 1) := by decide +kernel
theorem dX12_lay_0 : decode cX12_lay 0 = .ok (.aload_n 0, 1) := by decide +kernel
theorem dX12_lay_1 : decode cX12_lay 1 = .ok (.iload_n 1, 1) := by decide +kernel
theorem dX12_lay_2 : decode cX12_lay 2 = .ok (.invokevirtual 302, 3) := by decide +kernel
theorem dX12_lay_5 : decode cX12_lay 5 = .ok (.ifCond .eq 26, 3) := by decide +kernel
theorem dX12_lay_8 : decode cX12_lay 8 = .ok (.iload_n 2, 1) := by decide +kernel
theorem dX12_lay_9 : decode cX12_lay 9 = .ok (.iconst 0, 1) := by decide +kernel
theorem dX12_lay_10 : decode cX12_lay 10 = .ok (.aload_n 0, 1) := by decide +kernel
theorem dX12_lay_11 : decode cX12_lay 11 = .ok (.getfield 287, 3) := by decide +kernel
theorem dX12_lay_14 : decode cX12_lay 14 = .ok (.iconst 1, 1) := by decide +kernel
theorem dX12_lay_15 : decode cX12_lay 15 = .ok (.isub, 1) := by decide +kernel
theorem dX12_lay_16 : decode cX12_lay 16 = .ok (.invokestatic 165, 3) := by decide +kernel
theorem dX12_lay_19 : decode cX12_lay 19 = .ok (.ifCond .eq 12, 3) := by decide +kernel
theorem dX12_lay_22 : decode cX12_lay 22 = .ok (.aload_n 0, 1) := by decide +kernel
theorem dX12_lay_23 : decode cX12_lay 23 = .ok (.iconst 1, 1) := by decide +kernel
theorem dX12_lay_24 : decode cX12_lay 24 = .ok (.iload_n 3, 1) := by decide +kernel
theorem dX12_lay_25 : decode cX12_lay 25 = .ok (.invokevirtual 268, 3) := by decide +kernel
theorem dX12_lay_28 : decode cX12_lay 28 = .ok (.ifCond .ne 5, 3) := by decide +kernel
theorem dX12_lay_31 : decode cX12_lay 31 = .ok (.iconst 0, 1) := by decide +kernel
theorem dX12_lay_32 : decode cX12_lay 32 = .ok (.ireturn, 1) := by decide +kernel
theorem dX12_lay_33 : decode cX12_lay 33 = .ok (.aload_n 0, 1) := by decide +kernel
theorem dX12_lay_34 : decode cX12_lay 34 = .ok (.iload_n 3, 1) := by decide +kernel
theorem dX12_lay_35 : decode cX12_lay 35 = .ok (.invokevirtual 386, 3) := by decide +kernel
theorem dX12_lay_38 : decode cX12_lay 38 = .ok (.iconst 1, 1) := by decide +kernel
theorem dX12_lay_39 : decode cX12_lay 39 = .ok (.ireturn, 1) := by decide +kernel
theorem dX12_ends_0 : decode cX12_ends 0 = .ok (.aload_n 0, 1) := by decide +kernel
theorem dX12_ends_1 : decode cX12_ends 1 = .ok (.iconst 0, 1) := by decide +kernel
theorem dX12_ends_2 : decode cX12_ends 2 = .ok (.putfield 157, 3) := by decide +kernel
theorem dX12_ends_5 : decode cX12_ends 5 = .ok (.aload_n 0, 1) := by decide +kernel
theorem dX12_ends_6 : decode cX12_ends 6 = .ok (.iload_n 1, 1) := by decide +kernel
theorem dX12_ends_7 : decode cX12_ends 7 = .ok (.iload_n 2, 1) := by decide +kernel
theorem dX12_ends_8 : decode cX12_ends 8 = .ok (.iload_n 3, 1) := by decide +kernel
theorem dX12_ends_9 : decode cX12_ends 9 = .ok (.invokevirtual 389, 3) := by decide +kernel
theorem dX12_ends_12 : decode cX12_ends 12 = .ok (.ifCond .eq 11, 3) := by decide +kernel
theorem dX12_ends_15 : decode cX12_ends 15 = .ok (.aload_n 0, 1) := by decide +kernel
theorem dX12_ends_16 : decode cX12_ends 16 = .ok (.iload_n 2, 1) := by decide +kernel
theorem dX12_ends_17 : decode cX12_ends 17 = .ok (.invokevirtual 392, 3) := by decide +kernel
theorem dX12_ends_20 : decode cX12_ends 20 = .ok (.goto 6, 3) := by decide +kernel
theorem dX12_ends_23 : decode cX12_ends 23 = .ok (.ldc2_w 395, 3) := by decide +kernel
theorem dX12_ends_26 : decode cX12_ends 26 = .ok (.lreturn, 1) := by decide +kernel
theorem dX12_isFirst_0 : decode cX12_isFirst 0 = .ok (.iload_n 0, 1) := by decide +kernel
theorem dX12_isFirst_1 : decode cX12_isFirst 1 = .ok (.iload_n 3, 1) := by decide +kernel
theorem dX12_isFirst_2 : decode cX12_isFirst 2 = .ok (.if_icmp .lt 15, 3) := by decide +kernel
theorem dX12_isFirst_5 : decode cX12_isFirst 5 = .ok (.iload_n 0, 1) := by decide +kernel
theorem dX12_isFirst_6 : decode cX12_isFirst 6 = .ok (.iload_n 3, 1) := by decide +kernel
theorem dX12_isFirst_7 : decode cX12_isFirst 7 = .ok (.if_icmp .ne 14, 3) := by decide +kernel
theorem dX12_isFirst_10 : decode cX12_isFirst 10 = .ok (.lload_n 1, 1) := by decide +kernel
theorem dX12_isFirst_11 : decode cX12_isFirst 11 = .ok (.lload 4, 2) := by decide +kernel
theorem dX12_isFirst_13 : decode cX12_isFirst 13 = .ok (.lcmp, 1) := by decide +kernel
theorem dX12_isFirst_14 : decode cX12_isFirst 14 = .ok (.ifCond .ge 7, 3) := by decide +kernel
theorem dX12_isFirst_17 : decode cX12_isFirst 17 = .ok (.iconst 1, 1) := by decide +kernel
theorem dX12_isFirst_18 : decode cX12_isFirst 18 = .ok (.goto 4, 3) := by decide +kernel
theorem dX12_isFirst_21 : decode cX12_isFirst 21 = .ok (.iconst 0, 1) := by decide +kernel
theorem dX12_isFirst_22 : decode cX12_isFirst 22 = .ok (.ireturn, 1) := by decide +kernel
theorem dX12_comesTo_0 : decode cX12_comesTo 0 = .ok (.bipush 36, 2) := by decide +kernel
theorem dX12_comesTo_2 : decode cX12_comesTo 2 = .ok (.iload_n 2, 1) := by decide +kernel
theorem dX12_comesTo_3 : decode cX12_comesTo 3 = .ok (.imul, 1) := by decide +kernel
theorem dX12_comesTo_4 : decode cX12_comesTo 4 = .ok (.iload_n 1, 1) := by decide +kernel
theorem dX12_comesTo_5 : decode cX12_comesTo 5 = .ok (.iadd, 1) := by decide +kernel
theorem dX12_comesTo_6 : decode cX12_comesTo 6 = .ok (.istore 7, 2) := by decide +kernel
theorem dX12_comesTo_8 : decode cX12_comesTo 8 = .ok (.aload_n 0, 1) := by decide +kernel
theorem dX12_comesTo_9 : decode cX12_comesTo 9 = .ok (.getfield 90, 3) := by decide +kernel
theorem dX12_comesTo_12 : decode cX12_comesTo 12 = .ok (.iload 7, 2) := by decide +kernel
theorem dX12_comesTo_14 : decode cX12_comesTo 14 = .ok (.iaload, 1) := by decide +kernel
theorem dX12_comesTo_15 : decode cX12_comesTo 15 = .ok (.ifCond .eq 27, 3) := by decide +kernel
theorem dX12_comesTo_18 : decode cX12_comesTo 18 = .ok (.iload 4, 2) := by decide +kernel
theorem dX12_comesTo_20 : decode cX12_comesTo 20 = .ok (.lload 5, 2) := by decide +kernel
theorem dX12_comesTo_22 : decode cX12_comesTo 22 = .ok (.aload_n 0, 1) := by decide +kernel
theorem dX12_comesTo_23 : decode cX12_comesTo 23 = .ok (.getfield 99, 3) := by decide +kernel
theorem dX12_comesTo_26 : decode cX12_comesTo 26 = .ok (.iload 7, 2) := by decide +kernel
theorem dX12_comesTo_28 : decode cX12_comesTo 28 = .ok (.iaload, 1) := by decide +kernel
theorem dX12_comesTo_29 : decode cX12_comesTo 29 = .ok (.aload_n 0, 1) := by decide +kernel
theorem dX12_comesTo_30 : decode cX12_comesTo 30 = .ok (.getfield 108, 3) := by decide +kernel
theorem dX12_comesTo_33 : decode cX12_comesTo 33 = .ok (.iload 7, 2) := by decide +kernel
theorem dX12_comesTo_35 : decode cX12_comesTo 35 = .ok (.laload, 1) := by decide +kernel
theorem dX12_comesTo_36 : decode cX12_comesTo 36 = .ok (.invokestatic 397, 3) := by decide +kernel
theorem dX12_comesTo_39 : decode cX12_comesTo 39 = .ok (.ifCond .eq 21, 3) := by decide +kernel
theorem dX12_comesTo_42 : decode cX12_comesTo 42 = .ok (.aload_n 0, 1) := by decide +kernel
theorem dX12_comesTo_43 : decode cX12_comesTo 43 = .ok (.getfield 99, 3) := by decide +kernel
theorem dX12_comesTo_46 : decode cX12_comesTo 46 = .ok (.iload 7, 2) := by decide +kernel
theorem dX12_comesTo_48 : decode cX12_comesTo 48 = .ok (.iload 4, 2) := by decide +kernel
theorem dX12_comesTo_50 : decode cX12_comesTo 50 = .ok (.iastore, 1) := by decide +kernel
theorem dX12_comesTo_51 : decode cX12_comesTo 51 = .ok (.aload_n 0, 1) := by decide +kernel
theorem dX12_comesTo_52 : decode cX12_comesTo 52 = .ok (.getfield 108, 3) := by decide +kernel
theorem dX12_comesTo_55 : decode cX12_comesTo 55 = .ok (.iload 7, 2) := by decide +kernel
theorem dX12_comesTo_57 : decode cX12_comesTo 57 = .ok (.lload 5, 2) := by decide +kernel
theorem dX12_comesTo_59 : decode cX12_comesTo 59 = .ok (.lastore, 1) := by decide +kernel
theorem dX12_comesTo_60 : decode cX12_comesTo 60 = .ok (.aload_n 0, 1) := by decide +kernel
theorem dX12_comesTo_61 : decode cX12_comesTo 61 = .ok (.getfield 90, 3) := by decide +kernel
theorem dX12_comesTo_64 : decode cX12_comesTo 64 = .ok (.iload 7, 2) := by decide +kernel
theorem dX12_comesTo_66 : decode cX12_comesTo 66 = .ok (.dup2, 1) := by decide +kernel
theorem dX12_comesTo_67 : decode cX12_comesTo 67 = .ok (.iaload, 1) := by decide +kernel
theorem dX12_comesTo_68 : decode cX12_comesTo 68 = .ok (.iload_n 3, 1) := by decide +kernel
theorem dX12_comesTo_69 : decode cX12_comesTo 69 = .ok (.iadd, 1) := by decide +kernel
theorem dX12_comesTo_70 : decode cX12_comesTo 70 = .ok (.iastore, 1) := by decide +kernel
theorem dX12_comesTo_71 : decode cX12_comesTo 71 = .ok (.return_, 1) := by decide +kernel
theorem dX12_endsAt_0 : decode cX12_endsAt 0 = .ok (.aload_n 0, 1) := by decide +kernel
theorem dX12_endsAt_1 : decode cX12_endsAt 1 = .ok (.getfield 114, 3) := by decide +kernel
theorem dX12_endsAt_4 : decode cX12_endsAt 4 = .ok (.iload_n 1, 1) := by decide +kernel
theorem dX12_endsAt_5 : decode cX12_endsAt 5 = .ok (.iaload, 1) := by decide +kernel
theorem dX12_endsAt_6 : decode cX12_endsAt 6 = .ok (.ifCond .eq 24, 3) := by decide +kernel
theorem dX12_endsAt_9 : decode cX12_endsAt 9 = .ok (.iload_n 3, 1) := by decide +kernel
theorem dX12_endsAt_10 : decode cX12_endsAt 10 = .ok (.lload 4, 2) := by decide +kernel
theorem dX12_endsAt_12 : decode cX12_endsAt 12 = .ok (.aload_n 0, 1) := by decide +kernel
theorem dX12_endsAt_13 : decode cX12_endsAt 13 = .ok (.getfield 117, 3) := by decide +kernel
theorem dX12_endsAt_16 : decode cX12_endsAt 16 = .ok (.iload_n 1, 1) := by decide +kernel
theorem dX12_endsAt_17 : decode cX12_endsAt 17 = .ok (.iaload, 1) := by decide +kernel
theorem dX12_endsAt_18 : decode cX12_endsAt 18 = .ok (.aload_n 0, 1) := by decide +kernel
theorem dX12_endsAt_19 : decode cX12_endsAt 19 = .ok (.getfield 120, 3) := by decide +kernel
theorem dX12_endsAt_22 : decode cX12_endsAt 22 = .ok (.iload_n 1, 1) := by decide +kernel
theorem dX12_endsAt_23 : decode cX12_endsAt 23 = .ok (.laload, 1) := by decide +kernel
theorem dX12_endsAt_24 : decode cX12_endsAt 24 = .ok (.invokestatic 397, 3) := by decide +kernel
theorem dX12_endsAt_27 : decode cX12_endsAt 27 = .ok (.ifCond .eq 18, 3) := by decide +kernel
theorem dX12_endsAt_30 : decode cX12_endsAt 30 = .ok (.aload_n 0, 1) := by decide +kernel
theorem dX12_endsAt_31 : decode cX12_endsAt 31 = .ok (.getfield 117, 3) := by decide +kernel
theorem dX12_endsAt_34 : decode cX12_endsAt 34 = .ok (.iload_n 1, 1) := by decide +kernel
theorem dX12_endsAt_35 : decode cX12_endsAt 35 = .ok (.iload_n 3, 1) := by decide +kernel
theorem dX12_endsAt_36 : decode cX12_endsAt 36 = .ok (.iastore, 1) := by decide +kernel
theorem dX12_endsAt_37 : decode cX12_endsAt 37 = .ok (.aload_n 0, 1) := by decide +kernel
theorem dX12_endsAt_38 : decode cX12_endsAt 38 = .ok (.getfield 120, 3) := by decide +kernel
theorem dX12_endsAt_41 : decode cX12_endsAt 41 = .ok (.iload_n 1, 1) := by decide +kernel
theorem dX12_endsAt_42 : decode cX12_endsAt 42 = .ok (.lload 4, 2) := by decide +kernel
theorem dX12_endsAt_44 : decode cX12_endsAt 44 = .ok (.lastore, 1) := by decide +kernel
theorem dX12_endsAt_45 : decode cX12_endsAt 45 = .ok (.aload_n 0, 1) := by decide +kernel
theorem dX12_endsAt_46 : decode cX12_endsAt 46 = .ok (.getfield 114, 3) := by decide +kernel
theorem dX12_endsAt_49 : decode cX12_endsAt 49 = .ok (.iload_n 1, 1) := by decide +kernel
theorem dX12_endsAt_50 : decode cX12_endsAt 50 = .ok (.dup2, 1) := by decide +kernel
theorem dX12_endsAt_51 : decode cX12_endsAt 51 = .ok (.iaload, 1) := by decide +kernel
theorem dX12_endsAt_52 : decode cX12_endsAt 52 = .ok (.iload_n 2, 1) := by decide +kernel
theorem dX12_endsAt_53 : decode cX12_endsAt 53 = .ok (.iadd, 1) := by decide +kernel
theorem dX12_endsAt_54 : decode cX12_endsAt 54 = .ok (.iastore, 1) := by decide +kernel
theorem dX12_endsAt_55 : decode cX12_endsAt 55 = .ok (.return_, 1) := by decide +kernel
theorem dX12_goesTo_0 : decode cX12_goesTo 0 = .ok (.iload_n 1, 1) := by decide +kernel
theorem dX12_goesTo_1 : decode cX12_goesTo 1 = .ok (.iconst (-1), 1) := by decide +kernel
theorem dX12_goesTo_2 : decode cX12_goesTo 2 = .ok (.if_icmp .ne 5, 3) := by decide +kernel
theorem dX12_goesTo_5 : decode cX12_goesTo 5 = .ok (.iconst 0, 1) := by decide +kernel
theorem dX12_goesTo_6 : decode cX12_goesTo 6 = .ok (.ireturn, 1) := by decide +kernel
theorem dX12_goesTo_7 : decode cX12_goesTo 7 = .ok (.aload_n 0, 1) := by decide +kernel
theorem dX12_goesTo_8 : decode cX12_goesTo 8 = .ok (.iload_n 1, 1) := by decide +kernel
theorem dX12_goesTo_9 : decode cX12_goesTo 9 = .ok (.invokevirtual 325, 3) := by decide +kernel
theorem dX12_goesTo_12 : decode cX12_goesTo 12 = .ok (.ifCond .eq 16, 3) := by decide +kernel
theorem dX12_goesTo_15 : decode cX12_goesTo 15 = .ok (.aload_n 0, 1) := by decide +kernel
theorem dX12_goesTo_16 : decode cX12_goesTo 16 = .ok (.iload_n 1, 1) := by decide +kernel
theorem dX12_goesTo_17 : decode cX12_goesTo 17 = .ok (.iload_n 3, 1) := by decide +kernel
theorem dX12_goesTo_18 : decode cX12_goesTo 18 = .ok (.iload 4, 2) := by decide +kernel
theorem dX12_goesTo_20 : decode cX12_goesTo 20 = .ok (.lload 5, 2) := by decide +kernel
theorem dX12_goesTo_22 : decode cX12_goesTo 22 = .ok (.invokevirtual 401, 3) := by decide +kernel
theorem dX12_goesTo_25 : decode cX12_goesTo 25 = .ok (.goto 14, 3) := by decide +kernel
theorem dX12_goesTo_28 : decode cX12_goesTo 28 = .ok (.aload_n 0, 1) := by decide +kernel
theorem dX12_goesTo_29 : decode cX12_goesTo 29 = .ok (.iload_n 1, 1) := by decide +kernel
theorem dX12_goesTo_30 : decode cX12_goesTo 30 = .ok (.iload_n 2, 1) := by decide +kernel
theorem dX12_goesTo_31 : decode cX12_goesTo 31 = .ok (.iload_n 3, 1) := by decide +kernel
theorem dX12_goesTo_32 : decode cX12_goesTo 32 = .ok (.iload 4, 2) := by decide +kernel
theorem dX12_goesTo_34 : decode cX12_goesTo 34 = .ok (.lload 5, 2) := by decide +kernel
theorem dX12_goesTo_36 : decode cX12_goesTo 36 = .ok (.invokevirtual 405, 3) := by decide +kernel
theorem dX12_goesTo_39 : decode cX12_goesTo 39 = .ok (.iconst 1, 1) := by decide +kernel
theorem dX12_goesTo_40 : decode cX12_goesTo 40 = .ok (.ireturn, 1) := by decide +kernel
theorem dX12_pathBy_0 : decode cX12_pathBy 0 = .ok (.iload_n 2, 1) := by decide +kernel
theorem dX12_pathBy_1 : decode cX12_pathBy 1 = .ok (.bipush 36, 2) := by decide +kernel
theorem dX12_pathBy_3 : decode cX12_pathBy 3 = .ok (.irem, 1) := by decide +kernel
theorem dX12_pathBy_4 : decode cX12_pathBy 4 = .ok (.istore_n 3, 1) := by decide +kernel
theorem dX12_pathBy_5 : decode cX12_pathBy 5 = .ok (.iload_n 2, 1) := by decide +kernel
theorem dX12_pathBy_6 : decode cX12_pathBy 6 = .ok (.bipush 36, 2) := by decide +kernel
theorem dX12_pathBy_8 : decode cX12_pathBy 8 = .ok (.idiv, 1) := by decide +kernel
theorem dX12_pathBy_9 : decode cX12_pathBy 9 = .ok (.istore 4, 2) := by decide +kernel
theorem dX12_pathBy_11 : decode cX12_pathBy 11 = .ok (.aload_n 0, 1) := by decide +kernel
theorem dX12_pathBy_12 : decode cX12_pathBy 12 = .ok (.getfield 87, 3) := by decide +kernel
theorem dX12_pathBy_15 : decode cX12_pathBy 15 = .ok (.iload_n 2, 1) := by decide +kernel
theorem dX12_pathBy_16 : decode cX12_pathBy 16 = .ok (.iaload, 1) := by decide +kernel
theorem dX12_pathBy_17 : decode cX12_pathBy 17 = .ok (.istore 5, 2) := by decide +kernel
theorem dX12_pathBy_19 : decode cX12_pathBy 19 = .ok (.aload_n 0, 1) := by decide +kernel
theorem dX12_pathBy_20 : decode cX12_pathBy 20 = .ok (.getfield 96, 3) := by decide +kernel
theorem dX12_pathBy_23 : decode cX12_pathBy 23 = .ok (.iload_n 2, 1) := by decide +kernel
theorem dX12_pathBy_24 : decode cX12_pathBy 24 = .ok (.iaload, 1) := by decide +kernel
theorem dX12_pathBy_25 : decode cX12_pathBy 25 = .ok (.istore 6, 2) := by decide +kernel
theorem dX12_pathBy_27 : decode cX12_pathBy 27 = .ok (.aload_n 0, 1) := by decide +kernel
theorem dX12_pathBy_28 : decode cX12_pathBy 28 = .ok (.getfield 105, 3) := by decide +kernel
theorem dX12_pathBy_31 : decode cX12_pathBy 31 = .ok (.iload_n 2, 1) := by decide +kernel
theorem dX12_pathBy_32 : decode cX12_pathBy 32 = .ok (.laload, 1) := by decide +kernel
theorem dX12_pathBy_33 : decode cX12_pathBy 33 = .ok (.lstore 7, 2) := by decide +kernel
theorem dX12_pathBy_35 : decode cX12_pathBy 35 = .ok (.iload_n 1, 1) := by decide +kernel
theorem dX12_pathBy_36 : decode cX12_pathBy 36 = .ok (.iconst 4, 1) := by decide +kernel
theorem dX12_pathBy_37 : decode cX12_pathBy 37 = .ok (.if_icmp .gt 91, 3) := by decide +kernel
theorem dX12_pathBy_40 : decode cX12_pathBy 40 = .ok (.iconst 0, 1) := by decide +kernel
theorem dX12_pathBy_41 : decode cX12_pathBy 41 = .ok (.istore 9, 2) := by decide +kernel
theorem dX12_pathBy_43 : decode cX12_pathBy 43 = .ok (.iconst 0, 1) := by decide +kernel
theorem dX12_pathBy_44 : decode cX12_pathBy 44 = .ok (.istore 10, 2) := by decide +kernel
theorem dX12_pathBy_46 : decode cX12_pathBy 46 = .ok (.iload 10, 2) := by decide +kernel
theorem dX12_pathBy_48 : decode cX12_pathBy 48 = .ok (.iconst 4, 1) := by decide +kernel
theorem dX12_pathBy_49 : decode cX12_pathBy 49 = .ok (.if_icmp .ge 76, 3) := by decide +kernel
theorem dX12_pathBy_52 : decode cX12_pathBy 52 = .ok (.iload_n 1, 1) := by decide +kernel
theorem dX12_pathBy_53 : decode cX12_pathBy 53 = .ok (.iconst 4, 1) := by decide +kernel
theorem dX12_pathBy_54 : decode cX12_pathBy 54 = .ok (.if_icmp .eq 9, 3) := by decide +kernel
theorem dX12_pathBy_57 : decode cX12_pathBy 57 = .ok (.iload_n 1, 1) := by decide +kernel
theorem dX12_pathBy_58 : decode cX12_pathBy 58 = .ok (.iload 10, 2) := by decide +kernel
theorem dX12_pathBy_60 : decode cX12_pathBy 60 = .ok (.if_icmp .ne 39, 3) := by decide +kernel
theorem dX12_pathBy_63 : decode cX12_pathBy 63 = .ok (.aload_n 0, 1) := by decide +kernel
theorem dX12_pathBy_64 : decode cX12_pathBy 64 = .ok (.aload_n 0, 1) := by decide +kernel
theorem dX12_pathBy_65 : decode cX12_pathBy 65 = .ok (.iload_n 3, 1) := by decide +kernel
theorem dX12_pathBy_66 : decode cX12_pathBy 66 = .ok (.iload 10, 2) := by decide +kernel
theorem dX12_pathBy_68 : decode cX12_pathBy 68 = .ok (.invokevirtual 322, 3) := by decide +kernel
theorem dX12_pathBy_71 : decode cX12_pathBy 71 = .ok (.iload 10, 2) := by decide +kernel
theorem dX12_pathBy_73 : decode cX12_pathBy 73 = .ok (.iload 5, 2) := by decide +kernel
theorem dX12_pathBy_75 : decode cX12_pathBy 75 = .ok (.iload 6, 2) := by decide +kernel
theorem dX12_pathBy_77 : decode cX12_pathBy 77 = .ok (.iconst 1, 1) := by decide +kernel
theorem dX12_pathBy_78 : decode cX12_pathBy 78 = .ok (.iadd, 1) := by decide +kernel
theorem dX12_pathBy_79 : decode cX12_pathBy 79 = .ok (.ldc2_w 409, 3) := by decide +kernel
theorem dX12_pathBy_82 : decode cX12_pathBy 82 = .ok (.lload 7, 2) := by decide +kernel
theorem dX12_pathBy_84 : decode cX12_pathBy 84 = .ok (.lmul, 1) := by decide +kernel
theorem dX12_pathBy_85 : decode cX12_pathBy 85 = .ok (.iload 10, 2) := by decide +kernel
theorem dX12_pathBy_87 : decode cX12_pathBy 87 = .ok (.i2l, 1) := by decide +kernel
theorem dX12_pathBy_88 : decode cX12_pathBy 88 = .ok (.ladd, 1) := by decide +kernel
theorem dX12_pathBy_89 : decode cX12_pathBy 89 = .ok (.invokevirtual 411, 3) := by decide +kernel
theorem dX12_pathBy_92 : decode cX12_pathBy 92 = .ok (.ifCond .eq 7, 3) := by decide +kernel
theorem dX12_pathBy_95 : decode cX12_pathBy 95 = .ok (.iconst 1, 1) := by decide +kernel
theorem dX12_pathBy_96 : decode cX12_pathBy 96 = .ok (.goto 4, 3) := by decide +kernel
theorem dX12_pathBy_99 : decode cX12_pathBy 99 = .ok (.iconst 0, 1) := by decide +kernel
theorem dX12_pathBy_100 : decode cX12_pathBy 100 = .ok (.istore 11, 2) := by decide +kernel
theorem dX12_pathBy_102 : decode cX12_pathBy 102 = .ok (.iload 9, 2) := by decide +kernel
theorem dX12_pathBy_104 : decode cX12_pathBy 104 = .ok (.ifCond .ne 8, 3) := by decide +kernel
theorem dX12_pathBy_107 : decode cX12_pathBy 107 = .ok (.iload 11, 2) := by decide +kernel
theorem dX12_pathBy_109 : decode cX12_pathBy 109 = .ok (.ifCond .eq 7, 3) := by decide +kernel
theorem dX12_pathBy_112 : decode cX12_pathBy 112 = .ok (.iconst 1, 1) := by decide +kernel
theorem dX12_pathBy_113 : decode cX12_pathBy 113 = .ok (.goto 4, 3) := by decide +kernel
theorem dX12_pathBy_116 : decode cX12_pathBy 116 = .ok (.iconst 0, 1) := by decide +kernel
theorem dX12_pathBy_117 : decode cX12_pathBy 117 = .ok (.istore 9, 2) := by decide +kernel
theorem dX12_pathBy_119 : decode cX12_pathBy 119 = .ok (.iinc 10 1, 3) := by decide +kernel
theorem dX12_pathBy_122 : decode cX12_pathBy 122 = .ok (.goto (-76), 3) := by decide +kernel
theorem dX12_pathBy_125 : decode cX12_pathBy 125 = .ok (.iload 9, 2) := by decide +kernel
theorem dX12_pathBy_127 : decode cX12_pathBy 127 = .ok (.ireturn, 1) := by decide +kernel
theorem dX12_pathBy_128 : decode cX12_pathBy 128 = .ok (.iload_n 1, 1) := by decide +kernel
theorem dX12_pathBy_129 : decode cX12_pathBy 129 = .ok (.iconst 5, 1) := by decide +kernel
theorem dX12_pathBy_130 : decode cX12_pathBy 130 = .ok (.if_icmp .ne 31, 3) := by decide +kernel
theorem dX12_pathBy_133 : decode cX12_pathBy 133 = .ok (.iload 4, 2) := by decide +kernel
theorem dX12_pathBy_135 : decode cX12_pathBy 135 = .ok (.iconst 4, 1) := by decide +kernel
theorem dX12_pathBy_136 : decode cX12_pathBy 136 = .ok (.if_icmp .ge 23, 3) := by decide +kernel
theorem dX12_pathBy_139 : decode cX12_pathBy 139 = .ok (.aload_n 0, 1) := by decide +kernel
theorem dX12_pathBy_140 : decode cX12_pathBy 140 = .ok (.iload_n 3, 1) := by decide +kernel
theorem dX12_pathBy_141 : decode cX12_pathBy 141 = .ok (.iload 4, 2) := by decide +kernel
theorem dX12_pathBy_143 : decode cX12_pathBy 143 = .ok (.iload 5, 2) := by decide +kernel
theorem dX12_pathBy_145 : decode cX12_pathBy 145 = .ok (.iload 6, 2) := by decide +kernel
theorem dX12_pathBy_147 : decode cX12_pathBy 147 = .ok (.lload 7, 2) := by decide +kernel
theorem dX12_pathBy_149 : decode cX12_pathBy 149 = .ok (.invokevirtual 415, 3) := by decide +kernel
theorem dX12_pathBy_152 : decode cX12_pathBy 152 = .ok (.ifCond .eq 7, 3) := by decide +kernel
theorem dX12_pathBy_155 : decode cX12_pathBy 155 = .ok (.iconst 1, 1) := by decide +kernel
theorem dX12_pathBy_156 : decode cX12_pathBy 156 = .ok (.goto 4, 3) := by decide +kernel
theorem dX12_pathBy_159 : decode cX12_pathBy 159 = .ok (.iconst 0, 1) := by decide +kernel
theorem dX12_pathBy_160 : decode cX12_pathBy 160 = .ok (.ireturn, 1) := by decide +kernel
theorem dX12_pathBy_161 : decode cX12_pathBy 161 = .ok (.iload_n 1, 1) := by decide +kernel
theorem dX12_pathBy_162 : decode cX12_pathBy 162 = .ok (.bipush 10, 2) := by decide +kernel
theorem dX12_pathBy_164 : decode cX12_pathBy 164 = .ok (.if_icmp .eq 22, 3) := by decide +kernel
theorem dX12_pathBy_167 : decode cX12_pathBy 167 = .ok (.aload_n 0, 1) := by decide +kernel
theorem dX12_pathBy_168 : decode cX12_pathBy 168 = .ok (.iload_n 3, 1) := by decide +kernel
theorem dX12_pathBy_169 : decode cX12_pathBy 169 = .ok (.invokevirtual 346, 3) := by decide +kernel
theorem dX12_pathBy_172 : decode cX12_pathBy 172 = .ok (.iload_n 1, 1) := by decide +kernel
theorem dX12_pathBy_173 : decode cX12_pathBy 173 = .ok (.bipush 8, 2) := by decide +kernel
theorem dX12_pathBy_175 : decode cX12_pathBy 175 = .ok (.if_icmp .ne 7, 3) := by decide +kernel
theorem dX12_pathBy_178 : decode cX12_pathBy 178 = .ok (.iconst 1, 1) := by decide +kernel
theorem dX12_pathBy_179 : decode cX12_pathBy 179 = .ok (.goto 4, 3) := by decide +kernel
theorem dX12_pathBy_182 : decode cX12_pathBy 182 = .ok (.iconst 0, 1) := by decide +kernel
theorem dX12_pathBy_183 : decode cX12_pathBy 183 = .ok (.if_icmp .ne 7, 3) := by decide +kernel
theorem dX12_pathBy_186 : decode cX12_pathBy 186 = .ok (.iconst 1, 1) := by decide +kernel
theorem dX12_pathBy_187 : decode cX12_pathBy 187 = .ok (.goto 4, 3) := by decide +kernel
theorem dX12_pathBy_190 : decode cX12_pathBy 190 = .ok (.iconst 0, 1) := by decide +kernel
theorem dX12_pathBy_191 : decode cX12_pathBy 191 = .ok (.istore 9, 2) := by decide +kernel
theorem dX12_pathBy_193 : decode cX12_pathBy 193 = .ok (.iload 9, 2) := by decide +kernel
theorem dX12_pathBy_195 : decode cX12_pathBy 195 = .ok (.ifCond .eq 16, 3) := by decide +kernel
theorem dX12_pathBy_198 : decode cX12_pathBy 198 = .ok (.aload_n 0, 1) := by decide +kernel
theorem dX12_pathBy_199 : decode cX12_pathBy 199 = .ok (.iload_n 3, 1) := by decide +kernel
theorem dX12_pathBy_200 : decode cX12_pathBy 200 = .ok (.iload 4, 2) := by decide +kernel
theorem dX12_pathBy_202 : decode cX12_pathBy 202 = .ok (.iload 5, 2) := by decide +kernel
theorem dX12_pathBy_204 : decode cX12_pathBy 204 = .ok (.iload 6, 2) := by decide +kernel
theorem dX12_pathBy_206 : decode cX12_pathBy 206 = .ok (.lload 7, 2) := by decide +kernel
theorem dX12_pathBy_208 : decode cX12_pathBy 208 = .ok (.invokevirtual 405, 3) := by decide +kernel
theorem dX12_pathBy_211 : decode cX12_pathBy 211 = .ok (.iload 9, 2) := by decide +kernel
theorem dX12_pathBy_213 : decode cX12_pathBy 213 = .ok (.ireturn, 1) := by decide +kernel
theorem dX12_pathOn_0 : decode cX12_pathOn 0 = .ok (.iload_n 1, 1) := by decide +kernel
theorem dX12_pathOn_1 : decode cX12_pathOn 1 = .ok (.istore 7, 2) := by decide +kernel
theorem dX12_pathOn_3 : decode cX12_pathOn 3 = .ok (.iload 4, 2) := by decide +kernel
theorem dX12_pathOn_5 : decode cX12_pathOn 5 = .ok (.istore 8, 2) := by decide +kernel
theorem dX12_pathOn_7 : decode cX12_pathOn 7 = .ok (.lload 5, 2) := by decide +kernel
theorem dX12_pathOn_9 : decode cX12_pathOn 9 = .ok (.lstore 9, 2) := by decide +kernel
theorem dX12_pathOn_11 : decode cX12_pathOn 11 = .ok (.aload_n 0, 1) := by decide +kernel
theorem dX12_pathOn_12 : decode cX12_pathOn 12 = .ok (.iload 7, 2) := by decide +kernel
theorem dX12_pathOn_14 : decode cX12_pathOn 14 = .ok (.iload_n 2, 1) := by decide +kernel
theorem dX12_pathOn_15 : decode cX12_pathOn 15 = .ok (.invokevirtual 322, 3) := by decide +kernel
theorem dX12_pathOn_18 : decode cX12_pathOn 18 = .ok (.istore 11, 2) := by decide +kernel
theorem dX12_pathOn_20 : decode cX12_pathOn 20 = .ok (.iload 11, 2) := by decide +kernel
theorem dX12_pathOn_22 : decode cX12_pathOn 22 = .ok (.iconst (-1), 1) := by decide +kernel
theorem dX12_pathOn_23 : decode cX12_pathOn 23 = .ok (.if_icmp .eq 55, 3) := by decide +kernel
theorem dX12_pathOn_26 : decode cX12_pathOn 26 = .ok (.iload 11, 2) := by decide +kernel
theorem dX12_pathOn_28 : decode cX12_pathOn 28 = .ok (.istore 7, 2) := by decide +kernel
theorem dX12_pathOn_30 : decode cX12_pathOn 30 = .ok (.iinc 8 1, 3) := by decide +kernel
theorem dX12_pathOn_33 : decode cX12_pathOn 33 = .ok (.ldc2_w 409, 3) := by decide +kernel
theorem dX12_pathOn_36 : decode cX12_pathOn 36 = .ok (.lload 9, 2) := by decide +kernel
theorem dX12_pathOn_38 : decode cX12_pathOn 38 = .ok (.lmul, 1) := by decide +kernel
theorem dX12_pathOn_39 : decode cX12_pathOn 39 = .ok (.iload_n 2, 1) := by decide +kernel
theorem dX12_pathOn_40 : decode cX12_pathOn 40 = .ok (.i2l, 1) := by decide +kernel
theorem dX12_pathOn_41 : decode cX12_pathOn 41 = .ok (.ladd, 1) := by decide +kernel
theorem dX12_pathOn_42 : decode cX12_pathOn 42 = .ok (.lstore 9, 2) := by decide +kernel
theorem dX12_pathOn_44 : decode cX12_pathOn 44 = .ok (.aload_n 0, 1) := by decide +kernel
theorem dX12_pathOn_45 : decode cX12_pathOn 45 = .ok (.iload 7, 2) := by decide +kernel
theorem dX12_pathOn_47 : decode cX12_pathOn 47 = .ok (.invokevirtual 325, 3) := by decide +kernel
theorem dX12_pathOn_50 : decode cX12_pathOn 50 = .ok (.ifCond .eq 16, 3) := by decide +kernel
theorem dX12_pathOn_53 : decode cX12_pathOn 53 = .ok (.aload_n 0, 1) := by decide +kernel
theorem dX12_pathOn_54 : decode cX12_pathOn 54 = .ok (.iload 7, 2) := by decide +kernel
theorem dX12_pathOn_56 : decode cX12_pathOn 56 = .ok (.iload_n 3, 1) := by decide +kernel
theorem dX12_pathOn_57 : decode cX12_pathOn 57 = .ok (.iload 8, 2) := by decide +kernel
theorem dX12_pathOn_59 : decode cX12_pathOn 59 = .ok (.lload 9, 2) := by decide +kernel
theorem dX12_pathOn_61 : decode cX12_pathOn 61 = .ok (.invokevirtual 401, 3) := by decide +kernel
theorem dX12_pathOn_64 : decode cX12_pathOn 64 = .ok (.iconst 1, 1) := by decide +kernel
theorem dX12_pathOn_65 : decode cX12_pathOn 65 = .ok (.ireturn, 1) := by decide +kernel
theorem dX12_pathOn_66 : decode cX12_pathOn 66 = .ok (.aload_n 0, 1) := by decide +kernel
theorem dX12_pathOn_67 : decode cX12_pathOn 67 = .ok (.iload 7, 2) := by decide +kernel
theorem dX12_pathOn_69 : decode cX12_pathOn 69 = .ok (.iload_n 2, 1) := by decide +kernel
theorem dX12_pathOn_70 : decode cX12_pathOn 70 = .ok (.invokevirtual 322, 3) := by decide +kernel
theorem dX12_pathOn_73 : decode cX12_pathOn 73 = .ok (.istore 11, 2) := by decide +kernel
theorem dX12_pathOn_75 : decode cX12_pathOn 75 = .ok (.goto (-55), 3) := by decide +kernel
theorem dX12_pathOn_78 : decode cX12_pathOn 78 = .ok (.aload_n 0, 1) := by decide +kernel
theorem dX12_pathOn_79 : decode cX12_pathOn 79 = .ok (.iload 7, 2) := by decide +kernel
theorem dX12_pathOn_81 : decode cX12_pathOn 81 = .ok (.iload_n 2, 1) := by decide +kernel
theorem dX12_pathOn_82 : decode cX12_pathOn 82 = .ok (.iload_n 3, 1) := by decide +kernel
theorem dX12_pathOn_83 : decode cX12_pathOn 83 = .ok (.iload 8, 2) := by decide +kernel
theorem dX12_pathOn_85 : decode cX12_pathOn 85 = .ok (.lload 9, 2) := by decide +kernel
theorem dX12_pathOn_87 : decode cX12_pathOn 87 = .ok (.invokevirtual 405, 3) := by decide +kernel
theorem dX12_pathOn_90 : decode cX12_pathOn 90 = .ok (.iconst 1, 1) := by decide +kernel
theorem dX12_pathOn_91 : decode cX12_pathOn 91 = .ok (.ireturn, 1) := by decide +kernel
theorem dX12_pathsBy_0 : decode cX12_pathsBy 0 = .ok (.iconst 0, 1) := by decide +kernel
theorem dX12_pathsBy_1 : decode cX12_pathsBy 1 = .ok (.istore_n 3, 1) := by decide +kernel
theorem dX12_pathsBy_2 : decode cX12_pathsBy 2 = .ok (.iload_n 3, 1) := by decide +kernel
theorem dX12_pathsBy_3 : decode cX12_pathsBy 3 = .ok (.sipush 180, 3) := by decide +kernel
theorem dX12_pathsBy_6 : decode cX12_pathsBy 6 = .ok (.if_icmp .ge 16, 3) := by decide +kernel
theorem dX12_pathsBy_9 : decode cX12_pathsBy 9 = .ok (.aload_n 0, 1) := by decide +kernel
theorem dX12_pathsBy_10 : decode cX12_pathsBy 10 = .ok (.getfield 90, 3) := by decide +kernel
theorem dX12_pathsBy_13 : decode cX12_pathsBy 13 = .ok (.iload_n 3, 1) := by decide +kernel
theorem dX12_pathsBy_14 : decode cX12_pathsBy 14 = .ok (.iconst 0, 1) := by decide +kernel
theorem dX12_pathsBy_15 : decode cX12_pathsBy 15 = .ok (.iastore, 1) := by decide +kernel
theorem dX12_pathsBy_16 : decode cX12_pathsBy 16 = .ok (.iinc 3 1, 3) := by decide +kernel
theorem dX12_pathsBy_19 : decode cX12_pathsBy 19 = .ok (.goto (-17), 3) := by decide +kernel
theorem dX12_pathsBy_22 : decode cX12_pathsBy 22 = .ok (.iconst 0, 1) := by decide +kernel
theorem dX12_pathsBy_23 : decode cX12_pathsBy 23 = .ok (.istore_n 3, 1) := by decide +kernel
theorem dX12_pathsBy_24 : decode cX12_pathsBy 24 = .ok (.iload_n 3, 1) := by decide +kernel
theorem dX12_pathsBy_25 : decode cX12_pathsBy 25 = .ok (.sipush 180, 3) := by decide +kernel
theorem dX12_pathsBy_28 : decode cX12_pathsBy 28 = .ok (.if_icmp .ge 61, 3) := by decide +kernel
theorem dX12_pathsBy_31 : decode cX12_pathsBy 31 = .ok (.aload_n 0, 1) := by decide +kernel
theorem dX12_pathsBy_32 : decode cX12_pathsBy 32 = .ok (.getfield 87, 3) := by decide +kernel
theorem dX12_pathsBy_35 : decode cX12_pathsBy 35 = .ok (.iload_n 3, 1) := by decide +kernel
theorem dX12_pathsBy_36 : decode cX12_pathsBy 36 = .ok (.iaload, 1) := by decide +kernel
theorem dX12_pathsBy_37 : decode cX12_pathsBy 37 = .ok (.ifCond .le 46, 3) := by decide +kernel
theorem dX12_pathsBy_40 : decode cX12_pathsBy 40 = .ok (.aload_n 0, 1) := by decide +kernel
theorem dX12_pathsBy_41 : decode cX12_pathsBy 41 = .ok (.iload_n 1, 1) := by decide +kernel
theorem dX12_pathsBy_42 : decode cX12_pathsBy 42 = .ok (.iload_n 3, 1) := by decide +kernel
theorem dX12_pathsBy_43 : decode cX12_pathsBy 43 = .ok (.invokevirtual 418, 3) := by decide +kernel
theorem dX12_pathsBy_46 : decode cX12_pathsBy 46 = .ok (.ifCond .ne 37, 3) := by decide +kernel
theorem dX12_pathsBy_49 : decode cX12_pathsBy 49 = .ok (.iload_n 2, 1) := by decide +kernel
theorem dX12_pathsBy_50 : decode cX12_pathsBy 50 = .ok (.ifCond .eq 33, 3) := by decide +kernel
theorem dX12_pathsBy_53 : decode cX12_pathsBy 53 = .ok (.aload_n 0, 1) := by decide +kernel
theorem dX12_pathsBy_54 : decode cX12_pathsBy 54 = .ok (.iload_n 3, 1) := by decide +kernel
theorem dX12_pathsBy_55 : decode cX12_pathsBy 55 = .ok (.bipush 36, 2) := by decide +kernel
theorem dX12_pathsBy_57 : decode cX12_pathsBy 57 = .ok (.irem, 1) := by decide +kernel
theorem dX12_pathsBy_58 : decode cX12_pathsBy 58 = .ok (.iload_n 3, 1) := by decide +kernel
theorem dX12_pathsBy_59 : decode cX12_pathsBy 59 = .ok (.bipush 36, 2) := by decide +kernel
theorem dX12_pathsBy_61 : decode cX12_pathsBy 61 = .ok (.idiv, 1) := by decide +kernel
theorem dX12_pathsBy_62 : decode cX12_pathsBy 62 = .ok (.aload_n 0, 1) := by decide +kernel
theorem dX12_pathsBy_63 : decode cX12_pathsBy 63 = .ok (.getfield 87, 3) := by decide +kernel
theorem dX12_pathsBy_66 : decode cX12_pathsBy 66 = .ok (.iload_n 3, 1) := by decide +kernel
theorem dX12_pathsBy_67 : decode cX12_pathsBy 67 = .ok (.iaload, 1) := by decide +kernel
theorem dX12_pathsBy_68 : decode cX12_pathsBy 68 = .ok (.aload_n 0, 1) := by decide +kernel
theorem dX12_pathsBy_69 : decode cX12_pathsBy 69 = .ok (.getfield 96, 3) := by decide +kernel
theorem dX12_pathsBy_72 : decode cX12_pathsBy 72 = .ok (.iload_n 3, 1) := by decide +kernel
theorem dX12_pathsBy_73 : decode cX12_pathsBy 73 = .ok (.iaload, 1) := by decide +kernel
theorem dX12_pathsBy_74 : decode cX12_pathsBy 74 = .ok (.aload_n 0, 1) := by decide +kernel
theorem dX12_pathsBy_75 : decode cX12_pathsBy 75 = .ok (.getfield 105, 3) := by decide +kernel
theorem dX12_pathsBy_78 : decode cX12_pathsBy 78 = .ok (.iload_n 3, 1) := by decide +kernel
theorem dX12_pathsBy_79 : decode cX12_pathsBy 79 = .ok (.laload, 1) := by decide +kernel
theorem dX12_pathsBy_80 : decode cX12_pathsBy 80 = .ok (.invokevirtual 405, 3) := by decide +kernel
theorem dX12_pathsBy_83 : decode cX12_pathsBy 83 = .ok (.iinc 3 1, 3) := by decide +kernel
theorem dX12_pathsBy_86 : decode cX12_pathsBy 86 = .ok (.goto (-62), 3) := by decide +kernel
theorem dX12_pathsBy_89 : decode cX12_pathsBy 89 = .ok (.iconst 0, 1) := by decide +kernel
theorem dX12_pathsBy_90 : decode cX12_pathsBy 90 = .ok (.istore_n 3, 1) := by decide +kernel
theorem dX12_pathsBy_91 : decode cX12_pathsBy 91 = .ok (.iload_n 3, 1) := by decide +kernel
theorem dX12_pathsBy_92 : decode cX12_pathsBy 92 = .ok (.sipush 180, 3) := by decide +kernel
theorem dX12_pathsBy_95 : decode cX12_pathsBy 95 = .ok (.if_icmp .ge 45, 3) := by decide +kernel
theorem dX12_pathsBy_98 : decode cX12_pathsBy 98 = .ok (.aload_n 0, 1) := by decide +kernel
theorem dX12_pathsBy_99 : decode cX12_pathsBy 99 = .ok (.getfield 87, 3) := by decide +kernel
theorem dX12_pathsBy_102 : decode cX12_pathsBy 102 = .ok (.iload_n 3, 1) := by decide +kernel
theorem dX12_pathsBy_103 : decode cX12_pathsBy 103 = .ok (.aload_n 0, 1) := by decide +kernel
theorem dX12_pathsBy_104 : decode cX12_pathsBy 104 = .ok (.getfield 90, 3) := by decide +kernel
theorem dX12_pathsBy_107 : decode cX12_pathsBy 107 = .ok (.iload_n 3, 1) := by decide +kernel
theorem dX12_pathsBy_108 : decode cX12_pathsBy 108 = .ok (.iaload, 1) := by decide +kernel
theorem dX12_pathsBy_109 : decode cX12_pathsBy 109 = .ok (.iastore, 1) := by decide +kernel
theorem dX12_pathsBy_110 : decode cX12_pathsBy 110 = .ok (.aload_n 0, 1) := by decide +kernel
theorem dX12_pathsBy_111 : decode cX12_pathsBy 111 = .ok (.getfield 96, 3) := by decide +kernel
theorem dX12_pathsBy_114 : decode cX12_pathsBy 114 = .ok (.iload_n 3, 1) := by decide +kernel
theorem dX12_pathsBy_115 : decode cX12_pathsBy 115 = .ok (.aload_n 0, 1) := by decide +kernel
theorem dX12_pathsBy_116 : decode cX12_pathsBy 116 = .ok (.getfield 99, 3) := by decide +kernel
theorem dX12_pathsBy_119 : decode cX12_pathsBy 119 = .ok (.iload_n 3, 1) := by decide +kernel
theorem dX12_pathsBy_120 : decode cX12_pathsBy 120 = .ok (.iaload, 1) := by decide +kernel
theorem dX12_pathsBy_121 : decode cX12_pathsBy 121 = .ok (.iastore, 1) := by decide +kernel
theorem dX12_pathsBy_122 : decode cX12_pathsBy 122 = .ok (.aload_n 0, 1) := by decide +kernel
theorem dX12_pathsBy_123 : decode cX12_pathsBy 123 = .ok (.getfield 105, 3) := by decide +kernel
theorem dX12_pathsBy_126 : decode cX12_pathsBy 126 = .ok (.iload_n 3, 1) := by decide +kernel
theorem dX12_pathsBy_127 : decode cX12_pathsBy 127 = .ok (.aload_n 0, 1) := by decide +kernel
theorem dX12_pathsBy_128 : decode cX12_pathsBy 128 = .ok (.getfield 108, 3) := by decide +kernel
theorem dX12_pathsBy_131 : decode cX12_pathsBy 131 = .ok (.iload_n 3, 1) := by decide +kernel
theorem dX12_pathsBy_132 : decode cX12_pathsBy 132 = .ok (.laload, 1) := by decide +kernel
theorem dX12_pathsBy_133 : decode cX12_pathsBy 133 = .ok (.lastore, 1) := by decide +kernel
theorem dX12_pathsBy_134 : decode cX12_pathsBy 134 = .ok (.iinc 3 1, 3) := by decide +kernel
theorem dX12_pathsBy_137 : decode cX12_pathsBy 137 = .ok (.goto (-46), 3) := by decide +kernel
theorem dX12_pathsBy_140 : decode cX12_pathsBy 140 = .ok (.return_, 1) := by decide +kernel
theorem dX12_findPaths_0 : decode cX12_findPaths 0 = .ok (.aload_n 0, 1) := by decide +kernel
theorem dX12_findPaths_1 : decode cX12_findPaths 1 = .ok (.iload_n 1, 1) := by decide +kernel
theorem dX12_findPaths_2 : decode cX12_findPaths 2 = .ok (.invokevirtual 373, 3) := by decide +kernel
theorem dX12_findPaths_5 : decode cX12_findPaths 5 = .ok (.iconst 0, 1) := by decide +kernel
theorem dX12_findPaths_6 : decode cX12_findPaths 6 = .ok (.istore_n 2, 1) := by decide +kernel
theorem dX12_findPaths_7 : decode cX12_findPaths 7 = .ok (.iload_n 2, 1) := by decide +kernel
theorem dX12_findPaths_8 : decode cX12_findPaths 8 = .ok (.sipush 180, 3) := by decide +kernel
theorem dX12_findPaths_11 : decode cX12_findPaths 11 = .ok (.if_icmp .ge 16, 3) := by decide +kernel
theorem dX12_findPaths_14 : decode cX12_findPaths 14 = .ok (.aload_n 0, 1) := by decide +kernel
theorem dX12_findPaths_15 : decode cX12_findPaths 15 = .ok (.getfield 87, 3) := by decide +kernel
theorem dX12_findPaths_18 : decode cX12_findPaths 18 = .ok (.iload_n 2, 1) := by decide +kernel
theorem dX12_findPaths_19 : decode cX12_findPaths 19 = .ok (.iconst 0, 1) := by decide +kernel
theorem dX12_findPaths_20 : decode cX12_findPaths 20 = .ok (.iastore, 1) := by decide +kernel
theorem dX12_findPaths_21 : decode cX12_findPaths 21 = .ok (.iinc 2 1, 3) := by decide +kernel
theorem dX12_findPaths_24 : decode cX12_findPaths 24 = .ok (.goto (-17), 3) := by decide +kernel
theorem dX12_findPaths_27 : decode cX12_findPaths 27 = .ok (.iconst 0, 1) := by decide +kernel
theorem dX12_findPaths_28 : decode cX12_findPaths 28 = .ok (.istore_n 2, 1) := by decide +kernel
theorem dX12_findPaths_29 : decode cX12_findPaths 29 = .ok (.iload_n 2, 1) := by decide +kernel
theorem dX12_findPaths_30 : decode cX12_findPaths 30 = .ok (.bipush 36, 2) := by decide +kernel
theorem dX12_findPaths_32 : decode cX12_findPaths 32 = .ok (.if_icmp .ge 16, 3) := by decide +kernel
theorem dX12_findPaths_35 : decode cX12_findPaths 35 = .ok (.aload_n 0, 1) := by decide +kernel
theorem dX12_findPaths_36 : decode cX12_findPaths 36 = .ok (.getfield 114, 3) := by decide +kernel
theorem dX12_findPaths_39 : decode cX12_findPaths 39 = .ok (.iload_n 2, 1) := by decide +kernel
theorem dX12_findPaths_40 : decode cX12_findPaths 40 = .ok (.iconst 0, 1) := by decide +kernel
theorem dX12_findPaths_41 : decode cX12_findPaths 41 = .ok (.iastore, 1) := by decide +kernel
theorem dX12_findPaths_42 : decode cX12_findPaths 42 = .ok (.iinc 2 1, 3) := by decide +kernel
theorem dX12_findPaths_45 : decode cX12_findPaths 45 = .ok (.goto (-16), 3) := by decide +kernel
theorem dX12_findPaths_48 : decode cX12_findPaths 48 = .ok (.sipush 144, 3) := by decide +kernel
theorem dX12_findPaths_51 : decode cX12_findPaths 51 = .ok (.aload_n 0, 1) := by decide +kernel
theorem dX12_findPaths_52 : decode cX12_findPaths 52 = .ok (.getfield 44, 3) := by decide +kernel
theorem dX12_findPaths_55 : decode cX12_findPaths 55 = .ok (.iload_n 1, 1) := by decide +kernel
theorem dX12_findPaths_56 : decode cX12_findPaths 56 = .ok (.iaload, 1) := by decide +kernel
theorem dX12_findPaths_57 : decode cX12_findPaths 57 = .ok (.iadd, 1) := by decide +kernel
theorem dX12_findPaths_58 : decode cX12_findPaths 58 = .ok (.istore_n 2, 1) := by decide +kernel
theorem dX12_findPaths_59 : decode cX12_findPaths 59 = .ok (.aload_n 0, 1) := by decide +kernel
theorem dX12_findPaths_60 : decode cX12_findPaths 60 = .ok (.getfield 87, 3) := by decide +kernel
theorem dX12_findPaths_63 : decode cX12_findPaths 63 = .ok (.iload_n 2, 1) := by decide +kernel
theorem dX12_findPaths_64 : decode cX12_findPaths 64 = .ok (.iconst 1, 1) := by decide +kernel
theorem dX12_findPaths_65 : decode cX12_findPaths 65 = .ok (.iastore, 1) := by decide +kernel
theorem dX12_findPaths_66 : decode cX12_findPaths 66 = .ok (.aload_n 0, 1) := by decide +kernel
theorem dX12_findPaths_67 : decode cX12_findPaths 67 = .ok (.getfield 96, 3) := by decide +kernel
theorem dX12_findPaths_70 : decode cX12_findPaths 70 = .ok (.iload_n 2, 1) := by decide +kernel
theorem dX12_findPaths_71 : decode cX12_findPaths 71 = .ok (.iconst 0, 1) := by decide +kernel
theorem dX12_findPaths_72 : decode cX12_findPaths 72 = .ok (.iastore, 1) := by decide +kernel
theorem dX12_findPaths_73 : decode cX12_findPaths 73 = .ok (.aload_n 0, 1) := by decide +kernel
theorem dX12_findPaths_74 : decode cX12_findPaths 74 = .ok (.getfield 105, 3) := by decide +kernel
theorem dX12_findPaths_77 : decode cX12_findPaths 77 = .ok (.iload_n 2, 1) := by decide +kernel
theorem dX12_findPaths_78 : decode cX12_findPaths 78 = .ok (.lconst 0, 1) := by decide +kernel
theorem dX12_findPaths_79 : decode cX12_findPaths 79 = .ok (.lastore, 1) := by decide +kernel
theorem dX12_findPaths_80 : decode cX12_findPaths 80 = .ok (.iconst 1, 1) := by decide +kernel
theorem dX12_findPaths_81 : decode cX12_findPaths 81 = .ok (.istore_n 3, 1) := by decide +kernel
theorem dX12_findPaths_82 : decode cX12_findPaths 82 = .ok (.iload_n 3, 1) := by decide +kernel
theorem dX12_findPaths_83 : decode cX12_findPaths 83 = .ok (.aload_n 0, 1) := by decide +kernel
theorem dX12_findPaths_84 : decode cX12_findPaths 84 = .ok (.getfield 75, 3) := by decide +kernel
theorem dX12_findPaths_87 : decode cX12_findPaths 87 = .ok (.iconst 0, 1) := by decide +kernel
theorem dX12_findPaths_88 : decode cX12_findPaths 88 = .ok (.iaload, 1) := by decide +kernel
theorem dX12_findPaths_89 : decode cX12_findPaths 89 = .ok (.if_icmp .gt 127, 3) := by decide +kernel
theorem dX12_findPaths_92 : decode cX12_findPaths 92 = .ok (.aload_n 0, 1) := by decide +kernel
theorem dX12_findPaths_93 : decode cX12_findPaths 93 = .ok (.getfield 75, 3) := by decide +kernel
theorem dX12_findPaths_96 : decode cX12_findPaths 96 = .ok (.iload_n 3, 1) := by decide +kernel
theorem dX12_findPaths_97 : decode cX12_findPaths 97 = .ok (.iaload, 1) := by decide +kernel
theorem dX12_findPaths_98 : decode cX12_findPaths 98 = .ok (.istore 4, 2) := by decide +kernel
theorem dX12_findPaths_100 : decode cX12_findPaths 100 = .ok (.iload_n 3, 1) := by decide +kernel
theorem dX12_findPaths_101 : decode cX12_findPaths 101 = .ok (.aload_n 0, 1) := by decide +kernel
theorem dX12_findPaths_102 : decode cX12_findPaths 102 = .ok (.getfield 75, 3) := by decide +kernel
theorem dX12_findPaths_105 : decode cX12_findPaths 105 = .ok (.iconst 0, 1) := by decide +kernel
theorem dX12_findPaths_106 : decode cX12_findPaths 106 = .ok (.iaload, 1) := by decide +kernel
theorem dX12_findPaths_107 : decode cX12_findPaths 107 = .ok (.if_icmp .ge 14, 3) := by decide +kernel
theorem dX12_findPaths_110 : decode cX12_findPaths 110 = .ok (.aload_n 0, 1) := by decide +kernel
theorem dX12_findPaths_111 : decode cX12_findPaths 111 = .ok (.getfield 75, 3) := by decide +kernel
theorem dX12_findPaths_114 : decode cX12_findPaths 114 = .ok (.iload_n 3, 1) := by decide +kernel
theorem dX12_findPaths_115 : decode cX12_findPaths 115 = .ok (.iconst 1, 1) := by decide +kernel
theorem dX12_findPaths_116 : decode cX12_findPaths 116 = .ok (.iadd, 1) := by decide +kernel
theorem dX12_findPaths_117 : decode cX12_findPaths 117 = .ok (.iaload, 1) := by decide +kernel
theorem dX12_findPaths_118 : decode cX12_findPaths 118 = .ok (.goto 4, 3) := by decide +kernel
theorem dX12_findPaths_121 : decode cX12_findPaths 121 = .ok (.iconst (-1), 1) := by decide +kernel
theorem dX12_findPaths_122 : decode cX12_findPaths 122 = .ok (.istore 5, 2) := by decide +kernel
theorem dX12_findPaths_124 : decode cX12_findPaths 124 = .ok (.iinc 3 1, 3) := by decide +kernel
theorem dX12_findPaths_127 : decode cX12_findPaths 127 = .ok (.iload 4, 2) := by decide +kernel
theorem dX12_findPaths_129 : decode cX12_findPaths 129 = .ok (.invokestatic 364, 3) := by decide +kernel
theorem dX12_findPaths_132 : decode cX12_findPaths 132 = .ok (.ifCond .eq 20, 3) := by decide +kernel
theorem dX12_findPaths_135 : decode cX12_findPaths 135 = .ok (.iload 5, 2) := by decide +kernel
theorem dX12_findPaths_137 : decode cX12_findPaths 137 = .ok (.iconst (-1), 1) := by decide +kernel
theorem dX12_findPaths_138 : decode cX12_findPaths 138 = .ok (.if_icmp .eq (-56), 3) := by decide +kernel
theorem dX12_findPaths_141 : decode cX12_findPaths 141 = .ok (.iload 5, 2) := by decide +kernel
theorem dX12_findPaths_143 : decode cX12_findPaths 143 = .ok (.invokestatic 364, 3) := by decide +kernel
theorem dX12_findPaths_146 : decode cX12_findPaths 146 = .ok (.ifCond .eq 6, 3) := by decide +kernel
theorem dX12_findPaths_149 : decode cX12_findPaths 149 = .ok (.goto (-67), 3) := by decide +kernel
theorem dX12_findPaths_152 : decode cX12_findPaths 152 = .ok (.iload_n 3, 1) := by decide +kernel
theorem dX12_findPaths_153 : decode cX12_findPaths 153 = .ok (.iload 4, 2) := by decide +kernel
theorem dX12_findPaths_155 : decode cX12_findPaths 155 = .ok (.invokestatic 364, 3) := by decide +kernel
theorem dX12_findPaths_158 : decode cX12_findPaths 158 = .ok (.ifCond .eq 7, 3) := by decide +kernel
theorem dX12_findPaths_161 : decode cX12_findPaths 161 = .ok (.iconst 1, 1) := by decide +kernel
theorem dX12_findPaths_162 : decode cX12_findPaths 162 = .ok (.goto 4, 3) := by decide +kernel
theorem dX12_findPaths_165 : decode cX12_findPaths 165 = .ok (.iconst 0, 1) := by decide +kernel
theorem dX12_findPaths_166 : decode cX12_findPaths 166 = .ok (.iadd, 1) := by decide +kernel
theorem dX12_findPaths_167 : decode cX12_findPaths 167 = .ok (.istore_n 3, 1) := by decide +kernel
theorem dX12_findPaths_168 : decode cX12_findPaths 168 = .ok (.aload_n 0, 1) := by decide +kernel
theorem dX12_findPaths_169 : decode cX12_findPaths 169 = .ok (.iload 4, 2) := by decide +kernel
theorem dX12_findPaths_171 : decode cX12_findPaths 171 = .ok (.invokestatic 364, 3) := by decide +kernel
theorem dX12_findPaths_174 : decode cX12_findPaths 174 = .ok (.ifCond .eq 8, 3) := by decide +kernel
theorem dX12_findPaths_177 : decode cX12_findPaths 177 = .ok (.iload 5, 2) := by decide +kernel
theorem dX12_findPaths_179 : decode cX12_findPaths 179 = .ok (.goto 5, 3) := by decide +kernel
theorem dX12_findPaths_182 : decode cX12_findPaths 182 = .ok (.iload 4, 2) := by decide +kernel
theorem dX12_findPaths_184 : decode cX12_findPaths 184 = .ok (.iload 4, 2) := by decide +kernel
theorem dX12_findPaths_186 : decode cX12_findPaths 186 = .ok (.bipush 7, 2) := by decide +kernel
theorem dX12_findPaths_188 : decode cX12_findPaths 188 = .ok (.if_icmp .ne 7, 3) := by decide +kernel
theorem dX12_findPaths_191 : decode cX12_findPaths 191 = .ok (.iconst 1, 1) := by decide +kernel
theorem dX12_findPaths_192 : decode cX12_findPaths 192 = .ok (.goto 4, 3) := by decide +kernel
theorem dX12_findPaths_195 : decode cX12_findPaths 195 = .ok (.iconst 0, 1) := by decide +kernel
theorem dX12_findPaths_196 : decode cX12_findPaths 196 = .ok (.invokevirtual 421, 3) := by decide +kernel
theorem dX12_findPaths_199 : decode cX12_findPaths 199 = .ok (.iload 4, 2) := by decide +kernel
theorem dX12_findPaths_201 : decode cX12_findPaths 201 = .ok (.bipush 6, 2) := by decide +kernel
theorem dX12_findPaths_203 : decode cX12_findPaths 203 = .ok (.if_icmp .ne 10, 3) := by decide +kernel
theorem dX12_findPaths_206 : decode cX12_findPaths 206 = .ok (.aload_n 0, 1) := by decide +kernel
theorem dX12_findPaths_207 : decode cX12_findPaths 207 = .ok (.iload 5, 2) := by decide +kernel
theorem dX12_findPaths_209 : decode cX12_findPaths 209 = .ok (.iconst 0, 1) := by decide +kernel
theorem dX12_findPaths_210 : decode cX12_findPaths 210 = .ok (.invokevirtual 421, 3) := by decide +kernel
theorem dX12_findPaths_213 : decode cX12_findPaths 213 = .ok (.goto (-131), 3) := by decide +kernel
theorem dX12_findPaths_216 : decode cX12_findPaths 216 = .ok (.iconst 0, 1) := by decide +kernel
theorem dX12_findPaths_217 : decode cX12_findPaths 217 = .ok (.istore 4, 2) := by decide +kernel
theorem dX12_findPaths_219 : decode cX12_findPaths 219 = .ok (.iload 4, 2) := by decide +kernel
theorem dX12_findPaths_221 : decode cX12_findPaths 221 = .ok (.sipush 180, 3) := by decide +kernel
theorem dX12_findPaths_224 : decode cX12_findPaths 224 = .ok (.if_icmp .ge 49, 3) := by decide +kernel
theorem dX12_findPaths_227 : decode cX12_findPaths 227 = .ok (.aload_n 0, 1) := by decide +kernel
theorem dX12_findPaths_228 : decode cX12_findPaths 228 = .ok (.getfield 87, 3) := by decide +kernel
theorem dX12_findPaths_231 : decode cX12_findPaths 231 = .ok (.iload 4, 2) := by decide +kernel
theorem dX12_findPaths_233 : decode cX12_findPaths 233 = .ok (.iaload, 1) := by decide +kernel
theorem dX12_findPaths_234 : decode cX12_findPaths 234 = .ok (.ifCond .le 33, 3) := by decide +kernel
theorem dX12_findPaths_237 : decode cX12_findPaths 237 = .ok (.aload_n 0, 1) := by decide +kernel
theorem dX12_findPaths_238 : decode cX12_findPaths 238 = .ok (.iload 4, 2) := by decide +kernel
theorem dX12_findPaths_240 : decode cX12_findPaths 240 = .ok (.bipush 36, 2) := by decide +kernel
theorem dX12_findPaths_242 : decode cX12_findPaths 242 = .ok (.irem, 1) := by decide +kernel
theorem dX12_findPaths_243 : decode cX12_findPaths 243 = .ok (.aload_n 0, 1) := by decide +kernel
theorem dX12_findPaths_244 : decode cX12_findPaths 244 = .ok (.getfield 87, 3) := by decide +kernel
theorem dX12_findPaths_247 : decode cX12_findPaths 247 = .ok (.iload 4, 2) := by decide +kernel
theorem dX12_findPaths_249 : decode cX12_findPaths 249 = .ok (.iaload, 1) := by decide +kernel
theorem dX12_findPaths_250 : decode cX12_findPaths 250 = .ok (.aload_n 0, 1) := by decide +kernel
theorem dX12_findPaths_251 : decode cX12_findPaths 251 = .ok (.getfield 96, 3) := by decide +kernel
theorem dX12_findPaths_254 : decode cX12_findPaths 254 = .ok (.iload 4, 2) := by decide +kernel
theorem dX12_findPaths_256 : decode cX12_findPaths 256 = .ok (.iaload, 1) := by decide +kernel
theorem dX12_findPaths_257 : decode cX12_findPaths 257 = .ok (.aload_n 0, 1) := by decide +kernel
theorem dX12_findPaths_258 : decode cX12_findPaths 258 = .ok (.getfield 105, 3) := by decide +kernel
theorem dX12_findPaths_261 : decode cX12_findPaths 261 = .ok (.iload 4, 2) := by decide +kernel
theorem dX12_findPaths_263 : decode cX12_findPaths 263 = .ok (.laload, 1) := by decide +kernel
theorem dX12_findPaths_264 : decode cX12_findPaths 264 = .ok (.invokevirtual 401, 3) := by decide +kernel
theorem dX12_findPaths_267 : decode cX12_findPaths 267 = .ok (.iinc 4 1, 3) := by decide +kernel
theorem dX12_findPaths_270 : decode cX12_findPaths 270 = .ok (.goto (-51), 3) := by decide +kernel
theorem dX12_findPaths_273 : decode cX12_findPaths 273 = .ok (.return_, 1) := by decide +kernel
theorem dX12_ways_0 : decode cX12_ways 0 = .ok (.aload_n 0, 1) := by decide +kernel
theorem dX12_ways_1 : decode cX12_ways 1 = .ok (.iconst 0, 1) := by decide +kernel
theorem dX12_ways_2 : decode cX12_ways 2 = .ok (.putfield 157, 3) := by decide +kernel
theorem dX12_ways_5 : decode cX12_ways 5 = .ok (.aload_n 0, 1) := by decide +kernel
theorem dX12_ways_6 : decode cX12_ways 6 = .ok (.iload_n 1, 1) := by decide +kernel
theorem dX12_ways_7 : decode cX12_ways 7 = .ok (.iload_n 2, 1) := by decide +kernel
theorem dX12_ways_8 : decode cX12_ways 8 = .ok (.iload_n 3, 1) := by decide +kernel
theorem dX12_ways_9 : decode cX12_ways 9 = .ok (.invokevirtual 389, 3) := by decide +kernel
theorem dX12_ways_12 : decode cX12_ways 12 = .ok (.ifCond .eq 18, 3) := by decide +kernel
theorem dX12_ways_15 : decode cX12_ways 15 = .ok (.iload 4, 2) := by decide +kernel
theorem dX12_ways_17 : decode cX12_ways 17 = .ok (.iconst 0, 1) := by decide +kernel
theorem dX12_ways_18 : decode cX12_ways 18 = .ok (.aload_n 0, 1) := by decide +kernel
theorem dX12_ways_19 : decode cX12_ways 19 = .ok (.getfield 284, 3) := by decide +kernel
theorem dX12_ways_22 : decode cX12_ways 22 = .ok (.iconst 1, 1) := by decide +kernel
theorem dX12_ways_23 : decode cX12_ways 23 = .ok (.isub, 1) := by decide +kernel
theorem dX12_ways_24 : decode cX12_ways 24 = .ok (.invokestatic 165, 3) := by decide +kernel
theorem dX12_ways_27 : decode cX12_ways 27 = .ok (.ifCond .ne 5, 3) := by decide +kernel
theorem dX12_ways_30 : decode cX12_ways 30 = .ok (.iconst (-1), 1) := by decide +kernel
theorem dX12_ways_31 : decode cX12_ways 31 = .ok (.ireturn, 1) := by decide +kernel
theorem dX12_ways_32 : decode cX12_ways 32 = .ok (.aload_n 0, 1) := by decide +kernel
theorem dX12_ways_33 : decode cX12_ways 33 = .ok (.iload_n 2, 1) := by decide +kernel
theorem dX12_ways_34 : decode cX12_ways 34 = .ok (.invokevirtual 425, 3) := by decide +kernel
theorem dX12_ways_37 : decode cX12_ways 37 = .ok (.aload_n 0, 1) := by decide +kernel
theorem dX12_ways_38 : decode cX12_ways 38 = .ok (.getfield 114, 3) := by decide +kernel
theorem dX12_ways_41 : decode cX12_ways 41 = .ok (.iload 4, 2) := by decide +kernel
theorem dX12_ways_43 : decode cX12_ways 43 = .ok (.iaload, 1) := by decide +kernel
theorem dX12_ways_44 : decode cX12_ways 44 = .ok (.ireturn, 1) := by decide +kernel
theorem dX12_path_0 : decode cX12_path 0 = .ok (.aload_n 0, 1) := by decide +kernel
theorem dX12_path_1 : decode cX12_path 1 = .ok (.iconst 0, 1) := by decide +kernel
theorem dX12_path_2 : decode cX12_path 2 = .ok (.putfield 157, 3) := by decide +kernel
theorem dX12_path_5 : decode cX12_path 5 = .ok (.aload_n 0, 1) := by decide +kernel
theorem dX12_path_6 : decode cX12_path 6 = .ok (.iload_n 1, 1) := by decide +kernel
theorem dX12_path_7 : decode cX12_path 7 = .ok (.iload_n 2, 1) := by decide +kernel
theorem dX12_path_8 : decode cX12_path 8 = .ok (.iload_n 3, 1) := by decide +kernel
theorem dX12_path_9 : decode cX12_path 9 = .ok (.invokevirtual 389, 3) := by decide +kernel
theorem dX12_path_12 : decode cX12_path 12 = .ok (.ifCond .eq 18, 3) := by decide +kernel
theorem dX12_path_15 : decode cX12_path 15 = .ok (.iload 4, 2) := by decide +kernel
theorem dX12_path_17 : decode cX12_path 17 = .ok (.iconst 0, 1) := by decide +kernel
theorem dX12_path_18 : decode cX12_path 18 = .ok (.aload_n 0, 1) := by decide +kernel
theorem dX12_path_19 : decode cX12_path 19 = .ok (.getfield 284, 3) := by decide +kernel
theorem dX12_path_22 : decode cX12_path 22 = .ok (.iconst 1, 1) := by decide +kernel
theorem dX12_path_23 : decode cX12_path 23 = .ok (.isub, 1) := by decide +kernel
theorem dX12_path_24 : decode cX12_path 24 = .ok (.invokestatic 165, 3) := by decide +kernel
theorem dX12_path_27 : decode cX12_path 27 = .ok (.ifCond .ne 5, 3) := by decide +kernel
theorem dX12_path_30 : decode cX12_path 30 = .ok (.iconst (-1), 1) := by decide +kernel
theorem dX12_path_31 : decode cX12_path 31 = .ok (.ireturn, 1) := by decide +kernel
theorem dX12_path_32 : decode cX12_path 32 = .ok (.aload_n 0, 1) := by decide +kernel
theorem dX12_path_33 : decode cX12_path 33 = .ok (.iload_n 2, 1) := by decide +kernel
theorem dX12_path_34 : decode cX12_path 34 = .ok (.invokevirtual 425, 3) := by decide +kernel
theorem dX12_path_37 : decode cX12_path 37 = .ok (.aload_n 0, 1) := by decide +kernel
theorem dX12_path_38 : decode cX12_path 38 = .ok (.getfield 114, 3) := by decide +kernel
theorem dX12_path_41 : decode cX12_path 41 = .ok (.iload 4, 2) := by decide +kernel
theorem dX12_path_43 : decode cX12_path 43 = .ok (.iaload, 1) := by decide +kernel
theorem dX12_path_44 : decode cX12_path 44 = .ok (.ifCond .eq 19, 3) := by decide +kernel
theorem dX12_path_47 : decode cX12_path 47 = .ok (.iload 5, 2) := by decide +kernel
theorem dX12_path_49 : decode cX12_path 49 = .ok (.iconst (-1), 1) := by decide +kernel
theorem dX12_path_50 : decode cX12_path 50 = .ok (.aload_n 0, 1) := by decide +kernel
theorem dX12_path_51 : decode cX12_path 51 = .ok (.getfield 117, 3) := by decide +kernel
theorem dX12_path_54 : decode cX12_path 54 = .ok (.iload 4, 2) := by decide +kernel
theorem dX12_path_56 : decode cX12_path 56 = .ok (.iaload, 1) := by decide +kernel
theorem dX12_path_57 : decode cX12_path 57 = .ok (.invokestatic 165, 3) := by decide +kernel
theorem dX12_path_60 : decode cX12_path 60 = .ok (.ifCond .ne 5, 3) := by decide +kernel
theorem dX12_path_63 : decode cX12_path 63 = .ok (.iconst (-1), 1) := by decide +kernel
theorem dX12_path_64 : decode cX12_path 64 = .ok (.ireturn, 1) := by decide +kernel
theorem dX12_path_65 : decode cX12_path 65 = .ok (.iload 5, 2) := by decide +kernel
theorem dX12_path_67 : decode cX12_path 67 = .ok (.iconst (-1), 1) := by decide +kernel
theorem dX12_path_68 : decode cX12_path 68 = .ok (.if_icmp .ne 13, 3) := by decide +kernel
theorem dX12_path_71 : decode cX12_path 71 = .ok (.aload_n 0, 1) := by decide +kernel
theorem dX12_path_72 : decode cX12_path 72 = .ok (.getfield 117, 3) := by decide +kernel
theorem dX12_path_75 : decode cX12_path 75 = .ok (.iload 4, 2) := by decide +kernel
theorem dX12_path_77 : decode cX12_path 77 = .ok (.iaload, 1) := by decide +kernel
theorem dX12_path_78 : decode cX12_path 78 = .ok (.iconst 1, 1) := by decide +kernel
theorem dX12_path_79 : decode cX12_path 79 = .ok (.iadd, 1) := by decide +kernel
theorem dX12_path_80 : decode cX12_path 80 = .ok (.ireturn, 1) := by decide +kernel
theorem dX12_path_81 : decode cX12_path 81 = .ok (.aload_n 0, 1) := by decide +kernel
theorem dX12_path_82 : decode cX12_path 82 = .ok (.getfield 44, 3) := by decide +kernel
theorem dX12_path_85 : decode cX12_path 85 = .ok (.iload_n 2, 1) := by decide +kernel
theorem dX12_path_86 : decode cX12_path 86 = .ok (.iaload, 1) := by decide +kernel
theorem dX12_path_87 : decode cX12_path 87 = .ok (.istore 6, 2) := by decide +kernel
theorem dX12_path_89 : decode cX12_path 89 = .ok (.iconst 1, 1) := by decide +kernel
theorem dX12_path_90 : decode cX12_path 90 = .ok (.istore 7, 2) := by decide +kernel
theorem dX12_path_92 : decode cX12_path 92 = .ok (.iload 7, 2) := by decide +kernel
theorem dX12_path_94 : decode cX12_path 94 = .ok (.iload 5, 2) := by decide +kernel
theorem dX12_path_96 : decode cX12_path 96 = .ok (.if_icmp .gt 42, 3) := by decide +kernel
theorem dX12_path_99 : decode cX12_path 99 = .ok (.aload_n 0, 1) := by decide +kernel
theorem dX12_path_100 : decode cX12_path 100 = .ok (.iload 6, 2) := by decide +kernel
theorem dX12_path_102 : decode cX12_path 102 = .ok (.aload_n 0, 1) := by decide +kernel
theorem dX12_path_103 : decode cX12_path 103 = .ok (.getfield 120, 3) := by decide +kernel
theorem dX12_path_106 : decode cX12_path 106 = .ok (.iload 4, 2) := by decide +kernel
theorem dX12_path_108 : decode cX12_path 108 = .ok (.laload, 1) := by decide +kernel
theorem dX12_path_109 : decode cX12_path 109 = .ok (.iconst 2, 1) := by decide +kernel
theorem dX12_path_110 : decode cX12_path 110 = .ok (.aload_n 0, 1) := by decide +kernel
theorem dX12_path_111 : decode cX12_path 111 = .ok (.getfield 117, 3) := by decide +kernel
theorem dX12_path_114 : decode cX12_path 114 = .ok (.iload 4, 2) := by decide +kernel
theorem dX12_path_116 : decode cX12_path 116 = .ok (.iaload, 1) := by decide +kernel
theorem dX12_path_117 : decode cX12_path 117 = .ok (.iload 7, 2) := by decide +kernel
theorem dX12_path_119 : decode cX12_path 119 = .ok (.isub, 1) := by decide +kernel
theorem dX12_path_120 : decode cX12_path 120 = .ok (.imul, 1) := by decide +kernel
theorem dX12_path_121 : decode cX12_path 121 = .ok (.lshr, 1) := by decide +kernel
theorem dX12_path_122 : decode cX12_path 122 = .ok (.ldc2_w 428, 3) := by decide +kernel
theorem dX12_path_125 : decode cX12_path 125 = .ok (.land, 1) := by decide +kernel
theorem dX12_path_126 : decode cX12_path 126 = .ok (.l2i, 1) := by decide +kernel
theorem dX12_path_127 : decode cX12_path 127 = .ok (.invokevirtual 318, 3) := by decide +kernel
theorem dX12_path_130 : decode cX12_path 130 = .ok (.istore 6, 2) := by decide +kernel
theorem dX12_path_132 : decode cX12_path 132 = .ok (.iinc 7 1, 3) := by decide +kernel
theorem dX12_path_135 : decode cX12_path 135 = .ok (.goto (-43), 3) := by decide +kernel
theorem dX12_path_138 : decode cX12_path 138 = .ok (.iload 6, 2) := by decide +kernel
theorem dX12_path_140 : decode cX12_path 140 = .ok (.ireturn, 1) := by decide +kernel
theorem dX12_moves_0 : decode cX12_moves 0 = .ok (.aload_n 0, 1) := by decide +kernel
theorem dX12_moves_1 : decode cX12_moves 1 = .ok (.getfield 32, 3) := by decide +kernel
theorem dX12_moves_4 : decode cX12_moves 4 = .ok (.sipush 331, 3) := by decide +kernel
theorem dX12_moves_7 : decode cX12_moves 7 = .ok (.aload_n 0, 1) := by decide +kernel
theorem dX12_moves_8 : decode cX12_moves 8 = .ok (.getfield 430, 3) := by decide +kernel
theorem dX12_moves_11 : decode cX12_moves 11 = .ok (.imul, 1) := by decide +kernel
theorem dX12_moves_12 : decode cX12_moves 12 = .ok (.iaload, 1) := by decide +kernel
theorem dX12_moves_13 : decode cX12_moves 13 = .ok (.ireturn, 1) := by decide +kernel
theorem dX12_moveOf_0 : decode cX12_moveOf 0 = .ok (.aload_n 0, 1) := by decide +kernel
theorem dX12_moveOf_1 : decode cX12_moveOf 1 = .ok (.getfield 32, 3) := by decide +kernel
theorem dX12_moveOf_4 : decode cX12_moveOf 4 = .ok (.sipush 331, 3) := by decide +kernel
theorem dX12_moveOf_7 : decode cX12_moveOf 7 = .ok (.aload_n 0, 1) := by decide +kernel
theorem dX12_moveOf_8 : decode cX12_moveOf 8 = .ok (.getfield 430, 3) := by decide +kernel
theorem dX12_moveOf_11 : decode cX12_moveOf 11 = .ok (.imul, 1) := by decide +kernel
theorem dX12_moveOf_12 : decode cX12_moveOf 12 = .ok (.iconst 1, 1) := by decide +kernel
theorem dX12_moveOf_13 : decode cX12_moveOf 13 = .ok (.iadd, 1) := by decide +kernel
theorem dX12_moveOf_14 : decode cX12_moveOf 14 = .ok (.bipush 11, 2) := by decide +kernel
theorem dX12_moveOf_16 : decode cX12_moveOf 16 = .ok (.iload_n 1, 1) := by decide +kernel
theorem dX12_moveOf_17 : decode cX12_moveOf 17 = .ok (.imul, 1) := by decide +kernel
theorem dX12_moveOf_18 : decode cX12_moveOf 18 = .ok (.iadd, 1) := by decide +kernel
theorem dX12_moveOf_19 : decode cX12_moveOf 19 = .ok (.iload_n 2, 1) := by decide +kernel
theorem dX12_moveOf_20 : decode cX12_moveOf 20 = .ok (.iadd, 1) := by decide +kernel
theorem dX12_moveOf_21 : decode cX12_moveOf 21 = .ok (.iaload, 1) := by decide +kernel
theorem dX12_moveOf_22 : decode cX12_moveOf 22 = .ok (.ireturn, 1) := by decide +kernel
theorem dX12_move_0 : decode cX12_move 0 = .ok (.aload_n 0, 1) := by decide +kernel
theorem dX12_move_1 : decode cX12_move 1 = .ok (.iconst 0, 1) := by decide +kernel
theorem dX12_move_2 : decode cX12_move 2 = .ok (.putfield 157, 3) := by decide +kernel
theorem dX12_move_5 : decode cX12_move 5 = .ok (.aload_n 0, 1) := by decide +kernel
theorem dX12_move_6 : decode cX12_move 6 = .ok (.iconst 2, 1) := by decide +kernel
theorem dX12_move_7 : decode cX12_move 7 = .ok (.iload_n 1, 1) := by decide +kernel
theorem dX12_move_8 : decode cX12_move 8 = .ok (.invokevirtual 268, 3) := by decide +kernel
theorem dX12_move_11 : decode cX12_move 11 = .ok (.ifCond .ne 6, 3) := by decide +kernel
theorem dX12_move_14 : decode cX12_move 14 = .ok (.bipush (-2), 2) := by decide +kernel
theorem dX12_move_16 : decode cX12_move 16 = .ok (.ireturn, 1) := by decide +kernel
theorem dX12_move_17 : decode cX12_move 17 = .ok (.aload_n 0, 1) := by decide +kernel
theorem dX12_move_18 : decode cX12_move 18 = .ok (.iload_n 1, 1) := by decide +kernel
theorem dX12_move_19 : decode cX12_move 19 = .ok (.putfield 430, 3) := by decide +kernel
theorem dX12_move_22 : decode cX12_move 22 = .ok (.iload_n 2, 1) := by decide +kernel
theorem dX12_move_23 : decode cX12_move 23 = .ok (.iconst (-1), 1) := by decide +kernel
theorem dX12_move_24 : decode cX12_move 24 = .ok (.if_icmp .ne 17, 3) := by decide +kernel
theorem dX12_move_27 : decode cX12_move 27 = .ok (.iload_n 3, 1) := by decide +kernel
theorem dX12_move_28 : decode cX12_move 28 = .ok (.ifCond .ne 10, 3) := by decide +kernel
theorem dX12_move_31 : decode cX12_move 31 = .ok (.aload_n 0, 1) := by decide +kernel
theorem dX12_move_32 : decode cX12_move 32 = .ok (.invokevirtual 433, 3) := by decide +kernel
theorem dX12_move_35 : decode cX12_move 35 = .ok (.goto 5, 3) := by decide +kernel
theorem dX12_move_38 : decode cX12_move 38 = .ok (.bipush (-2), 2) := by decide +kernel
theorem dX12_move_40 : decode cX12_move 40 = .ok (.ireturn, 1) := by decide +kernel
theorem dX12_move_41 : decode cX12_move 41 = .ok (.iload_n 2, 1) := by decide +kernel
theorem dX12_move_42 : decode cX12_move 42 = .ok (.iconst 0, 1) := by decide +kernel
theorem dX12_move_43 : decode cX12_move 43 = .ok (.aload_n 0, 1) := by decide +kernel
theorem dX12_move_44 : decode cX12_move 44 = .ok (.invokevirtual 433, 3) := by decide +kernel
theorem dX12_move_47 : decode cX12_move 47 = .ok (.iconst 1, 1) := by decide +kernel
theorem dX12_move_48 : decode cX12_move 48 = .ok (.isub, 1) := by decide +kernel
theorem dX12_move_49 : decode cX12_move 49 = .ok (.invokestatic 165, 3) := by decide +kernel
theorem dX12_move_52 : decode cX12_move 52 = .ok (.ifCond .ne 6, 3) := by decide +kernel
theorem dX12_move_55 : decode cX12_move 55 = .ok (.bipush (-2), 2) := by decide +kernel
theorem dX12_move_57 : decode cX12_move 57 = .ok (.ireturn, 1) := by decide +kernel
theorem dX12_move_58 : decode cX12_move 58 = .ok (.iload_n 3, 1) := by decide +kernel
theorem dX12_move_59 : decode cX12_move 59 = .ok (.iconst 0, 1) := by decide +kernel
theorem dX12_move_60 : decode cX12_move 60 = .ok (.iconst 1, 1) := by decide +kernel
theorem dX12_move_61 : decode cX12_move 61 = .ok (.invokestatic 165, 3) := by decide +kernel
theorem dX12_move_64 : decode cX12_move 64 = .ok (.ifCond .eq 12, 3) := by decide +kernel
theorem dX12_move_67 : decode cX12_move 67 = .ok (.aload_n 0, 1) := by decide +kernel
theorem dX12_move_68 : decode cX12_move 68 = .ok (.iload_n 2, 1) := by decide +kernel
theorem dX12_move_69 : decode cX12_move 69 = .ok (.iload_n 3, 1) := by decide +kernel
theorem dX12_move_70 : decode cX12_move 70 = .ok (.invokevirtual 436, 3) := by decide +kernel
theorem dX12_move_73 : decode cX12_move 73 = .ok (.goto 35, 3) := by decide +kernel
theorem dX12_move_76 : decode cX12_move 76 = .ok (.iload_n 3, 1) := by decide +kernel
theorem dX12_move_77 : decode cX12_move 77 = .ok (.bipush 10, 2) := by decide +kernel
theorem dX12_move_79 : decode cX12_move 79 = .ok (.bipush 9, 2) := by decide +kernel
theorem dX12_move_81 : decode cX12_move 81 = .ok (.aload_n 0, 1) := by decide +kernel
theorem dX12_move_82 : decode cX12_move 82 = .ok (.iload_n 2, 1) := by decide +kernel
theorem dX12_move_83 : decode cX12_move 83 = .ok (.iconst 1, 1) := by decide +kernel
theorem dX12_move_84 : decode cX12_move 84 = .ok (.invokevirtual 436, 3) := by decide +kernel
theorem dX12_move_87 : decode cX12_move 87 = .ok (.iadd, 1) := by decide +kernel
theorem dX12_move_88 : decode cX12_move 88 = .ok (.invokestatic 165, 3) := by decide +kernel
theorem dX12_move_91 : decode cX12_move 91 = .ok (.ifCond .eq 15, 3) := by decide +kernel
theorem dX12_move_94 : decode cX12_move 94 = .ok (.aload_n 0, 1) := by decide +kernel
theorem dX12_move_95 : decode cX12_move 95 = .ok (.iload_n 2, 1) := by decide +kernel
theorem dX12_move_96 : decode cX12_move 96 = .ok (.iload_n 3, 1) := by decide +kernel
theorem dX12_move_97 : decode cX12_move 97 = .ok (.bipush 8, 2) := by decide +kernel
theorem dX12_move_99 : decode cX12_move 99 = .ok (.isub, 1) := by decide +kernel
theorem dX12_move_100 : decode cX12_move 100 = .ok (.invokevirtual 436, 3) := by decide +kernel
theorem dX12_move_103 : decode cX12_move 103 = .ok (.goto 5, 3) := by decide +kernel
theorem dX12_move_106 : decode cX12_move 106 = .ok (.bipush (-2), 2) := by decide +kernel
theorem dX12_move_108 : decode cX12_move 108 = .ok (.ireturn, 1) := by decide +kernel
theorem dX12_menOf_0 : decode cX12_menOf 0 = .ok (.iconst 0, 1) := by decide +kernel
theorem dX12_menOf_1 : decode cX12_menOf 1 = .ok (.istore_n 2, 1) := by decide +kernel
theorem dX12_menOf_2 : decode cX12_menOf 2 = .ok (.iconst 0, 1) := by decide +kernel
theorem dX12_menOf_3 : decode cX12_menOf 3 = .ok (.istore_n 3, 1) := by decide +kernel
theorem dX12_menOf_4 : decode cX12_menOf 4 = .ok (.iload_n 3, 1) := by decide +kernel
theorem dX12_menOf_5 : decode cX12_menOf 5 = .ok (.aload_n 0, 1) := by decide +kernel
theorem dX12_menOf_6 : decode cX12_menOf 6 = .ok (.getfield 287, 3) := by decide +kernel
theorem dX12_menOf_9 : decode cX12_menOf 9 = .ok (.if_icmp .ge 37, 3) := by decide +kernel
theorem dX12_menOf_12 : decode cX12_menOf 12 = .ok (.iload_n 2, 1) := by decide +kernel
theorem dX12_menOf_13 : decode cX12_menOf 13 = .ok (.aload_n 0, 1) := by decide +kernel
theorem dX12_menOf_14 : decode cX12_menOf 14 = .ok (.getfield 41, 3) := by decide +kernel
theorem dX12_menOf_17 : decode cX12_menOf 17 = .ok (.iload_n 3, 1) := by decide +kernel
theorem dX12_menOf_18 : decode cX12_menOf 18 = .ok (.iaload, 1) := by decide +kernel
theorem dX12_menOf_19 : decode cX12_menOf 19 = .ok (.iload_n 1, 1) := by decide +kernel
theorem dX12_menOf_20 : decode cX12_menOf 20 = .ok (.if_icmp .ne 17, 3) := by decide +kernel
theorem dX12_menOf_23 : decode cX12_menOf 23 = .ok (.aload_n 0, 1) := by decide +kernel
theorem dX12_menOf_24 : decode cX12_menOf 24 = .ok (.getfield 44, 3) := by decide +kernel
theorem dX12_menOf_27 : decode cX12_menOf 27 = .ok (.iload_n 3, 1) := by decide +kernel
theorem dX12_menOf_28 : decode cX12_menOf 28 = .ok (.iaload, 1) := by decide +kernel
theorem dX12_menOf_29 : decode cX12_menOf 29 = .ok (.iconst (-1), 1) := by decide +kernel
theorem dX12_menOf_30 : decode cX12_menOf 30 = .ok (.if_icmp .eq 7, 3) := by decide +kernel
theorem dX12_menOf_33 : decode cX12_menOf 33 = .ok (.iconst 1, 1) := by decide +kernel
theorem dX12_menOf_34 : decode cX12_menOf 34 = .ok (.goto 4, 3) := by decide +kernel
theorem dX12_menOf_37 : decode cX12_menOf 37 = .ok (.iconst 0, 1) := by decide +kernel
theorem dX12_menOf_38 : decode cX12_menOf 38 = .ok (.iadd, 1) := by decide +kernel
theorem dX12_menOf_39 : decode cX12_menOf 39 = .ok (.istore_n 2, 1) := by decide +kernel
theorem dX12_menOf_40 : decode cX12_menOf 40 = .ok (.iinc 3 1, 3) := by decide +kernel
theorem dX12_menOf_43 : decode cX12_menOf 43 = .ok (.goto (-39), 3) := by decide +kernel
theorem dX12_menOf_46 : decode cX12_menOf 46 = .ok (.iload_n 2, 1) := by decide +kernel
theorem dX12_menOf_47 : decode cX12_menOf 47 = .ok (.ireturn, 1) := by decide +kernel
theorem dX12_isOver_0 : decode cX12_isOver 0 = .ok (.aload_n 0, 1) := by decide +kernel
theorem dX12_isOver_1 : decode cX12_isOver 1 = .ok (.iconst 0, 1) := by decide +kernel
theorem dX12_isOver_2 : decode cX12_isOver 2 = .ok (.invokevirtual 439, 3) := by decide +kernel
theorem dX12_isOver_5 : decode cX12_isOver 5 = .ok (.ifCond .eq 11, 3) := by decide +kernel
theorem dX12_isOver_8 : decode cX12_isOver 8 = .ok (.aload_n 0, 1) := by decide +kernel
theorem dX12_isOver_9 : decode cX12_isOver 9 = .ok (.iconst 1, 1) := by decide +kernel
theorem dX12_isOver_10 : decode cX12_isOver 10 = .ok (.invokevirtual 439, 3) := by decide +kernel
theorem dX12_isOver_13 : decode cX12_isOver 13 = .ok (.ifCond .ne 7, 3) := by decide +kernel
theorem dX12_isOver_16 : decode cX12_isOver 16 = .ok (.iconst 1, 1) := by decide +kernel
theorem dX12_isOver_17 : decode cX12_isOver 17 = .ok (.goto 4, 3) := by decide +kernel
theorem dX12_isOver_20 : decode cX12_isOver 20 = .ok (.iconst 0, 1) := by decide +kernel
theorem dX12_isOver_21 : decode cX12_isOver 21 = .ok (.ireturn, 1) := by decide +kernel
theorem dX12_nextMan_0 : decode cX12_nextMan 0 = .ok (.iconst (-1), 1) := by decide +kernel
theorem dX12_nextMan_1 : decode cX12_nextMan 1 = .ok (.istore_n 2, 1) := by decide +kernel
theorem dX12_nextMan_2 : decode cX12_nextMan 2 = .ok (.iconst (-1), 1) := by decide +kernel
theorem dX12_nextMan_3 : decode cX12_nextMan 3 = .ok (.istore_n 3, 1) := by decide +kernel
theorem dX12_nextMan_4 : decode cX12_nextMan 4 = .ok (.aload_n 0, 1) := by decide +kernel
theorem dX12_nextMan_5 : decode cX12_nextMan 5 = .ok (.getfield 287, 3) := by decide +kernel
theorem dX12_nextMan_8 : decode cX12_nextMan 8 = .ok (.iconst 1, 1) := by decide +kernel
theorem dX12_nextMan_9 : decode cX12_nextMan 9 = .ok (.isub, 1) := by decide +kernel
theorem dX12_nextMan_10 : decode cX12_nextMan 10 = .ok (.istore 4, 2) := by decide +kernel
theorem dX12_nextMan_12 : decode cX12_nextMan 12 = .ok (.iload 4, 2) := by decide +kernel
theorem dX12_nextMan_14 : decode cX12_nextMan 14 = .ok (.ifCond .lt 52, 3) := by decide +kernel
theorem dX12_nextMan_17 : decode cX12_nextMan 17 = .ok (.aload_n 0, 1) := by decide +kernel
theorem dX12_nextMan_18 : decode cX12_nextMan 18 = .ok (.getfield 41, 3) := by decide +kernel
theorem dX12_nextMan_21 : decode cX12_nextMan 21 = .ok (.iload 4, 2) := by decide +kernel
theorem dX12_nextMan_23 : decode cX12_nextMan 23 = .ok (.iaload, 1) := by decide +kernel
theorem dX12_nextMan_24 : decode cX12_nextMan 24 = .ok (.iload_n 1, 1) := by decide +kernel
theorem dX12_nextMan_25 : decode cX12_nextMan 25 = .ok (.if_icmp .ne 35, 3) := by decide +kernel
theorem dX12_nextMan_28 : decode cX12_nextMan 28 = .ok (.aload_n 0, 1) := by decide +kernel
theorem dX12_nextMan_29 : decode cX12_nextMan 29 = .ok (.getfield 44, 3) := by decide +kernel
theorem dX12_nextMan_32 : decode cX12_nextMan 32 = .ok (.iload 4, 2) := by decide +kernel
theorem dX12_nextMan_34 : decode cX12_nextMan 34 = .ok (.iaload, 1) := by decide +kernel
theorem dX12_nextMan_35 : decode cX12_nextMan 35 = .ok (.iconst (-1), 1) := by decide +kernel
theorem dX12_nextMan_36 : decode cX12_nextMan 36 = .ok (.if_icmp .eq 24, 3) := by decide +kernel
theorem dX12_nextMan_39 : decode cX12_nextMan 39 = .ok (.iload 4, 2) := by decide +kernel
theorem dX12_nextMan_41 : decode cX12_nextMan 41 = .ok (.istore_n 2, 1) := by decide +kernel
theorem dX12_nextMan_42 : decode cX12_nextMan 42 = .ok (.iload 4, 2) := by decide +kernel
theorem dX12_nextMan_44 : decode cX12_nextMan 44 = .ok (.aload_n 0, 1) := by decide +kernel
theorem dX12_nextMan_45 : decode cX12_nextMan 45 = .ok (.getfield 47, 3) := by decide +kernel
theorem dX12_nextMan_48 : decode cX12_nextMan 48 = .ok (.iload_n 1, 1) := by decide +kernel
theorem dX12_nextMan_49 : decode cX12_nextMan 49 = .ok (.iaload, 1) := by decide +kernel
theorem dX12_nextMan_50 : decode cX12_nextMan 50 = .ok (.if_icmp .le 8, 3) := by decide +kernel
theorem dX12_nextMan_53 : decode cX12_nextMan 53 = .ok (.iload 4, 2) := by decide +kernel
theorem dX12_nextMan_55 : decode cX12_nextMan 55 = .ok (.goto 4, 3) := by decide +kernel
theorem dX12_nextMan_58 : decode cX12_nextMan 58 = .ok (.iload_n 3, 1) := by decide +kernel
theorem dX12_nextMan_59 : decode cX12_nextMan 59 = .ok (.istore_n 3, 1) := by decide +kernel
theorem dX12_nextMan_60 : decode cX12_nextMan 60 = .ok (.iinc 4 (-1), 3) := by decide +kernel
theorem dX12_nextMan_63 : decode cX12_nextMan 63 = .ok (.goto (-51), 3) := by decide +kernel
theorem dX12_nextMan_66 : decode cX12_nextMan 66 = .ok (.iload_n 3, 1) := by decide +kernel
theorem dX12_nextMan_67 : decode cX12_nextMan 67 = .ok (.iconst (-1), 1) := by decide +kernel
theorem dX12_nextMan_68 : decode cX12_nextMan 68 = .ok (.if_icmp .eq 7, 3) := by decide +kernel
theorem dX12_nextMan_71 : decode cX12_nextMan 71 = .ok (.iload_n 3, 1) := by decide +kernel
theorem dX12_nextMan_72 : decode cX12_nextMan 72 = .ok (.goto 4, 3) := by decide +kernel
theorem dX12_nextMan_75 : decode cX12_nextMan 75 = .ok (.iload_n 2, 1) := by decide +kernel
theorem dX12_nextMan_76 : decode cX12_nextMan 76 = .ok (.ireturn, 1) := by decide +kernel
theorem dX12_goes_0 : decode cX12_goes 0 = .ok (.aload_n 0, 1) := by decide +kernel
theorem dX12_goes_1 : decode cX12_goes 1 = .ok (.iload_n 2, 1) := by decide +kernel
theorem dX12_goes_2 : decode cX12_goes 2 = .ok (.invokevirtual 309, 3) := by decide +kernel
theorem dX12_goes_5 : decode cX12_goes 5 = .ok (.istore_n 3, 1) := by decide +kernel
theorem dX12_goes_6 : decode cX12_goes 6 = .ok (.aload_n 0, 1) := by decide +kernel
theorem dX12_goes_7 : decode cX12_goes 7 = .ok (.iload_n 3, 1) := by decide +kernel
theorem dX12_goes_8 : decode cX12_goes 8 = .ok (.iconst (-1), 1) := by decide +kernel
theorem dX12_goes_9 : decode cX12_goes 9 = .ok (.if_icmp .eq 12, 3) := by decide +kernel
theorem dX12_goes_12 : decode cX12_goes 12 = .ok (.iload_n 3, 1) := by decide +kernel
theorem dX12_goes_13 : decode cX12_goes 13 = .ok (.iload_n 1, 1) := by decide +kernel
theorem dX12_goes_14 : decode cX12_goes 14 = .ok (.if_icmp .eq 7, 3) := by decide +kernel
theorem dX12_goes_17 : decode cX12_goes 17 = .ok (.iconst 1, 1) := by decide +kernel
theorem dX12_goes_18 : decode cX12_goes 18 = .ok (.goto 4, 3) := by decide +kernel
theorem dX12_goes_21 : decode cX12_goes 21 = .ok (.iconst 0, 1) := by decide +kernel
theorem dX12_goes_22 : decode cX12_goes 22 = .ok (.putfield 442, 3) := by decide +kernel
theorem dX12_goes_25 : decode cX12_goes 25 = .ok (.aload_n 0, 1) := by decide +kernel
theorem dX12_goes_26 : decode cX12_goes 26 = .ok (.getfield 442, 3) := by decide +kernel
theorem dX12_goes_29 : decode cX12_goes 29 = .ok (.ifCond .eq 10, 3) := by decide +kernel
theorem dX12_goes_32 : decode cX12_goes 32 = .ok (.aload_n 0, 1) := by decide +kernel
theorem dX12_goes_33 : decode cX12_goes 33 = .ok (.getfield 44, 3) := by decide +kernel
theorem dX12_goes_36 : decode cX12_goes 36 = .ok (.iload_n 3, 1) := by decide +kernel
theorem dX12_goes_37 : decode cX12_goes 37 = .ok (.iconst (-1), 1) := by decide +kernel
theorem dX12_goes_38 : decode cX12_goes 38 = .ok (.iastore, 1) := by decide +kernel
theorem dX12_goes_39 : decode cX12_goes 39 = .ok (.aload_n 0, 1) := by decide +kernel
theorem dX12_goes_40 : decode cX12_goes 40 = .ok (.getfield 44, 3) := by decide +kernel
theorem dX12_goes_43 : decode cX12_goes 43 = .ok (.iload_n 1, 1) := by decide +kernel
theorem dX12_goes_44 : decode cX12_goes 44 = .ok (.aload_n 0, 1) := by decide +kernel
theorem dX12_goes_45 : decode cX12_goes 45 = .ok (.getfield 293, 3) := by decide +kernel
theorem dX12_goes_48 : decode cX12_goes 48 = .ok (.iload_n 2, 1) := by decide +kernel
theorem dX12_goes_49 : decode cX12_goes 49 = .ok (.invokestatic 299, 3) := by decide +kernel
theorem dX12_goes_52 : decode cX12_goes 52 = .ok (.ifCond .eq 7, 3) := by decide +kernel
theorem dX12_goes_55 : decode cX12_goes 55 = .ok (.iconst (-1), 1) := by decide +kernel
theorem dX12_goes_56 : decode cX12_goes 56 = .ok (.goto 4, 3) := by decide +kernel
theorem dX12_goes_59 : decode cX12_goes 59 = .ok (.iload_n 2, 1) := by decide +kernel
theorem dX12_goes_60 : decode cX12_goes 60 = .ok (.iastore, 1) := by decide +kernel
theorem dX12_goes_61 : decode cX12_goes 61 = .ok (.aload_n 0, 1) := by decide +kernel
theorem dX12_goes_62 : decode cX12_goes 62 = .ok (.getfield 47, 3) := by decide +kernel
theorem dX12_goes_65 : decode cX12_goes 65 = .ok (.aload_n 0, 1) := by decide +kernel
theorem dX12_goes_66 : decode cX12_goes 66 = .ok (.getfield 41, 3) := by decide +kernel
theorem dX12_goes_69 : decode cX12_goes 69 = .ok (.iload_n 1, 1) := by decide +kernel
theorem dX12_goes_70 : decode cX12_goes 70 = .ok (.iaload, 1) := by decide +kernel
theorem dX12_goes_71 : decode cX12_goes 71 = .ok (.iload_n 1, 1) := by decide +kernel
theorem dX12_goes_72 : decode cX12_goes 72 = .ok (.iastore, 1) := by decide +kernel
theorem dX12_goes_73 : decode cX12_goes 73 = .ok (.return_, 1) := by decide +kernel
theorem dX12_obeys_0 : decode cX12_obeys 0 = .ok (.iload_n 1, 1) := by decide +kernel
theorem dX12_obeys_1 : decode cX12_obeys 1 = .ok (.iconst (-1), 1) := by decide +kernel
theorem dX12_obeys_2 : decode cX12_obeys 2 = .ok (.if_icmp .ne 20, 3) := by decide +kernel
theorem dX12_obeys_5 : decode cX12_obeys 5 = .ok (.aload_n 0, 1) := by decide +kernel
theorem dX12_obeys_6 : decode cX12_obeys 6 = .ok (.getfield 44, 3) := by decide +kernel
theorem dX12_obeys_9 : decode cX12_obeys 9 = .ok (.aload_n 0, 1) := by decide +kernel
theorem dX12_obeys_10 : decode cX12_obeys 10 = .ok (.aload_n 0, 1) := by decide +kernel
theorem dX12_obeys_11 : decode cX12_obeys 11 = .ok (.getfield 296, 3) := by decide +kernel
theorem dX12_obeys_14 : decode cX12_obeys 14 = .ok (.invokevirtual 446, 3) := by decide +kernel
theorem dX12_obeys_17 : decode cX12_obeys 17 = .ok (.iconst (-1), 1) := by decide +kernel
theorem dX12_obeys_18 : decode cX12_obeys 18 = .ok (.iastore, 1) := by decide +kernel
theorem dX12_obeys_19 : decode cX12_obeys 19 = .ok (.goto 18, 3) := by decide +kernel
theorem dX12_obeys_22 : decode cX12_obeys 22 = .ok (.aload_n 0, 1) := by decide +kernel
theorem dX12_obeys_23 : decode cX12_obeys 23 = .ok (.aload_n 0, 1) := by decide +kernel
theorem dX12_obeys_24 : decode cX12_obeys 24 = .ok (.iconst 1, 1) := by decide +kernel
theorem dX12_obeys_25 : decode cX12_obeys 25 = .ok (.aload_n 0, 1) := by decide +kernel
theorem dX12_obeys_26 : decode cX12_obeys 26 = .ok (.getfield 296, 3) := by decide +kernel
theorem dX12_obeys_29 : decode cX12_obeys 29 = .ok (.isub, 1) := by decide +kernel
theorem dX12_obeys_30 : decode cX12_obeys 30 = .ok (.invokevirtual 446, 3) := by decide +kernel
theorem dX12_obeys_33 : decode cX12_obeys 33 = .ok (.iload_n 1, 1) := by decide +kernel
theorem dX12_obeys_34 : decode cX12_obeys 34 = .ok (.invokevirtual 449, 3) := by decide +kernel
theorem dX12_obeys_37 : decode cX12_obeys 37 = .ok (.aload_n 0, 1) := by decide +kernel
theorem dX12_obeys_38 : decode cX12_obeys 38 = .ok (.iconst 1, 1) := by decide +kernel
theorem dX12_obeys_39 : decode cX12_obeys 39 = .ok (.aload_n 0, 1) := by decide +kernel
theorem dX12_obeys_40 : decode cX12_obeys 40 = .ok (.getfield 296, 3) := by decide +kernel
theorem dX12_obeys_43 : decode cX12_obeys 43 = .ok (.isub, 1) := by decide +kernel
theorem dX12_obeys_44 : decode cX12_obeys 44 = .ok (.putfield 296, 3) := by decide +kernel
theorem dX12_obeys_47 : decode cX12_obeys 47 = .ok (.return_, 1) := by decide +kernel
theorem dX12_layMove_0 : decode cX12_layMove 0 = .ok (.iconst 0, 1) := by decide +kernel
theorem dX12_layMove_1 : decode cX12_layMove 1 = .ok (.istore_n 2, 1) := by decide +kernel
theorem dX12_layMove_2 : decode cX12_layMove 2 = .ok (.iload_n 2, 1) := by decide +kernel
theorem dX12_layMove_3 : decode cX12_layMove 3 = .ok (.bipush 10, 2) := by decide +kernel
theorem dX12_layMove_5 : decode cX12_layMove 5 = .ok (.if_icmp .ge 23, 3) := by decide +kernel
theorem dX12_layMove_8 : decode cX12_layMove 8 = .ok (.aload_n 0, 1) := by decide +kernel
theorem dX12_layMove_9 : decode cX12_layMove 9 = .ok (.getfield 75, 3) := by decide +kernel
theorem dX12_layMove_12 : decode cX12_layMove 12 = .ok (.iload_n 2, 1) := by decide +kernel
theorem dX12_layMove_13 : decode cX12_layMove 13 = .ok (.aload_n 0, 1) := by decide +kernel
theorem dX12_layMove_14 : decode cX12_layMove 14 = .ok (.iload_n 1, 1) := by decide +kernel
theorem dX12_layMove_15 : decode cX12_layMove 15 = .ok (.iconst 1, 1) := by decide +kernel
theorem dX12_layMove_16 : decode cX12_layMove 16 = .ok (.iload_n 2, 1) := by decide +kernel
theorem dX12_layMove_17 : decode cX12_layMove 17 = .ok (.iadd, 1) := by decide +kernel
theorem dX12_layMove_18 : decode cX12_layMove 18 = .ok (.invokevirtual 436, 3) := by decide +kernel
theorem dX12_layMove_21 : decode cX12_layMove 21 = .ok (.iastore, 1) := by decide +kernel
theorem dX12_layMove_22 : decode cX12_layMove 22 = .ok (.iinc 2 1, 3) := by decide +kernel
theorem dX12_layMove_25 : decode cX12_layMove 25 = .ok (.goto (-23), 3) := by decide +kernel
theorem dX12_layMove_28 : decode cX12_layMove 28 = .ok (.aload_n 0, 1) := by decide +kernel
theorem dX12_layMove_29 : decode cX12_layMove 29 = .ok (.iload_n 1, 1) := by decide +kernel
theorem dX12_layMove_30 : decode cX12_layMove 30 = .ok (.invokevirtual 452, 3) := by decide +kernel
theorem dX12_layMove_33 : decode cX12_layMove 33 = .ok (.return_, 1) := by decide +kernel
theorem dX12_layQuote_0 : decode cX12_layQuote 0 = .ok (.iconst 0, 1) := by decide +kernel
theorem dX12_layQuote_1 : decode cX12_layQuote 1 = .ok (.istore_n 2, 1) := by decide +kernel
theorem dX12_layQuote_2 : decode cX12_layQuote 2 = .ok (.iload_n 2, 1) := by decide +kernel
theorem dX12_layQuote_3 : decode cX12_layQuote 3 = .ok (.bipush 10, 2) := by decide +kernel
theorem dX12_layQuote_5 : decode cX12_layQuote 5 = .ok (.if_icmp .ge 33, 3) := by decide +kernel
theorem dX12_layQuote_8 : decode cX12_layQuote 8 = .ok (.aload_n 0, 1) := by decide +kernel
theorem dX12_layQuote_9 : decode cX12_layQuote 9 = .ok (.getfield 60, 3) := by decide +kernel
theorem dX12_layQuote_12 : decode cX12_layQuote 12 = .ok (.iload_n 2, 1) := by decide +kernel
theorem dX12_layQuote_13 : decode cX12_layQuote 13 = .ok (.iload_n 1, 1) := by decide +kernel
theorem dX12_layQuote_14 : decode cX12_layQuote 14 = .ok (.ifCond .ne 7, 3) := by decide +kernel
theorem dX12_layQuote_17 : decode cX12_layQuote 17 = .ok (.iconst 0, 1) := by decide +kernel
theorem dX12_layQuote_18 : decode cX12_layQuote 18 = .ok (.goto 13, 3) := by decide +kernel
theorem dX12_layQuote_21 : decode cX12_layQuote 21 = .ok (.aload_n 0, 1) := by decide +kernel
theorem dX12_layQuote_22 : decode cX12_layQuote 22 = .ok (.iload_n 1, 1) := by decide +kernel
theorem dX12_layQuote_23 : decode cX12_layQuote 23 = .ok (.iconst 1, 1) := by decide +kernel
theorem dX12_layQuote_24 : decode cX12_layQuote 24 = .ok (.isub, 1) := by decide +kernel
theorem dX12_layQuote_25 : decode cX12_layQuote 25 = .ok (.iconst 1, 1) := by decide +kernel
theorem dX12_layQuote_26 : decode cX12_layQuote 26 = .ok (.iload_n 2, 1) := by decide +kernel
theorem dX12_layQuote_27 : decode cX12_layQuote 27 = .ok (.iadd, 1) := by decide +kernel
theorem dX12_layQuote_28 : decode cX12_layQuote 28 = .ok (.invokevirtual 436, 3) := by decide +kernel
theorem dX12_layQuote_31 : decode cX12_layQuote 31 = .ok (.iastore, 1) := by decide +kernel
theorem dX12_layQuote_32 : decode cX12_layQuote 32 = .ok (.iinc 2 1, 3) := by decide +kernel
theorem dX12_layQuote_35 : decode cX12_layQuote 35 = .ok (.goto (-33), 3) := by decide +kernel
theorem dX12_layQuote_38 : decode cX12_layQuote 38 = .ok (.return_, 1) := by decide +kernel
theorem dX12_canMove_0 : decode cX12_canMove 0 = .ok (.aload_n 0, 1) := by decide +kernel
theorem dX12_canMove_1 : decode cX12_canMove 1 = .ok (.invokevirtual 455, 3) := by decide +kernel
theorem dX12_canMove_4 : decode cX12_canMove 4 = .ok (.ifCond .eq 5, 3) := by decide +kernel
theorem dX12_canMove_7 : decode cX12_canMove 7 = .ok (.iconst 0, 1) := by decide +kernel
theorem dX12_canMove_8 : decode cX12_canMove 8 = .ok (.ireturn, 1) := by decide +kernel
theorem dX12_canMove_9 : decode cX12_canMove 9 = .ok (.aload_n 0, 1) := by decide +kernel
theorem dX12_canMove_10 : decode cX12_canMove 10 = .ok (.iload_n 1, 1) := by decide +kernel
theorem dX12_canMove_11 : decode cX12_canMove 11 = .ok (.invokevirtual 458, 3) := by decide +kernel
theorem dX12_canMove_14 : decode cX12_canMove 14 = .ok (.aload_n 0, 1) := by decide +kernel
theorem dX12_canMove_15 : decode cX12_canMove 15 = .ok (.aload_n 0, 1) := by decide +kernel
theorem dX12_canMove_16 : decode cX12_canMove 16 = .ok (.iconst 1, 1) := by decide +kernel
theorem dX12_canMove_17 : decode cX12_canMove 17 = .ok (.aload_n 0, 1) := by decide +kernel
theorem dX12_canMove_18 : decode cX12_canMove 18 = .ok (.getfield 296, 3) := by decide +kernel
theorem dX12_canMove_21 : decode cX12_canMove 21 = .ok (.isub, 1) := by decide +kernel
theorem dX12_canMove_22 : decode cX12_canMove 22 = .ok (.invokevirtual 446, 3) := by decide +kernel
theorem dX12_canMove_25 : decode cX12_canMove 25 = .ok (.invokevirtual 392, 3) := by decide +kernel
theorem dX12_canMove_28 : decode cX12_canMove 28 = .ok (.lstore_n 2, 1) := by decide +kernel
theorem dX12_canMove_29 : decode cX12_canMove 29 = .ok (.aload_n 0, 1) := by decide +kernel
theorem dX12_canMove_30 : decode cX12_canMove 30 = .ok (.iload_n 1, 1) := by decide +kernel
theorem dX12_canMove_31 : decode cX12_canMove 31 = .ok (.iconst 0, 1) := by decide +kernel
theorem dX12_canMove_32 : decode cX12_canMove 32 = .ok (.invokevirtual 436, 3) := by decide +kernel
theorem dX12_canMove_35 : decode cX12_canMove 35 = .ok (.istore 4, 2) := by decide +kernel
theorem dX12_canMove_37 : decode cX12_canMove 37 = .ok (.iload 4, 2) := by decide +kernel
theorem dX12_canMove_39 : decode cX12_canMove 39 = .ok (.iconst (-1), 1) := by decide +kernel
theorem dX12_canMove_40 : decode cX12_canMove 40 = .ok (.if_icmp .ne 17, 3) := by decide +kernel
theorem dX12_canMove_43 : decode cX12_canMove 43 = .ok (.lload_n 2, 1) := by decide +kernel
theorem dX12_canMove_44 : decode cX12_canMove 44 = .ok (.lconst 0, 1) := by decide +kernel
theorem dX12_canMove_45 : decode cX12_canMove 45 = .ok (.lcmp, 1) := by decide +kernel
theorem dX12_canMove_46 : decode cX12_canMove 46 = .ok (.ifCond .ne 7, 3) := by decide +kernel
theorem dX12_canMove_49 : decode cX12_canMove 49 = .ok (.iconst 1, 1) := by decide +kernel
theorem dX12_canMove_50 : decode cX12_canMove 50 = .ok (.goto 13, 3) := by decide +kernel
theorem dX12_canMove_53 : decode cX12_canMove 53 = .ok (.iconst 0, 1) := by decide +kernel
theorem dX12_canMove_54 : decode cX12_canMove 54 = .ok (.goto 9, 3) := by decide +kernel
theorem dX12_canMove_57 : decode cX12_canMove 57 = .ok (.lload_n 2, 1) := by decide +kernel
theorem dX12_canMove_58 : decode cX12_canMove 58 = .ok (.iload 4, 2) := by decide +kernel
theorem dX12_canMove_60 : decode cX12_canMove 60 = .ok (.invokestatic 299, 3) := by decide +kernel
theorem dX12_canMove_63 : decode cX12_canMove 63 = .ok (.ireturn, 1) := by decide +kernel
theorem dX12_play_0 : decode cX12_play 0 = .ok (.iconst 0, 1) := by decide +kernel
theorem dX12_play_1 : decode cX12_play 1 = .ok (.istore_n 2, 1) := by decide +kernel
theorem dX12_play_2 : decode cX12_play 2 = .ok (.iload_n 2, 1) := by decide +kernel
theorem dX12_play_3 : decode cX12_play 3 = .ok (.bipush 6, 2) := by decide +kernel
theorem dX12_play_5 : decode cX12_play 5 = .ok (.if_icmp .ge 16, 3) := by decide +kernel
theorem dX12_play_8 : decode cX12_play 8 = .ok (.aload_n 0, 1) := by decide +kernel
theorem dX12_play_9 : decode cX12_play 9 = .ok (.getfield 123, 3) := by decide +kernel
theorem dX12_play_12 : decode cX12_play 12 = .ok (.iload_n 2, 1) := by decide +kernel
theorem dX12_play_13 : decode cX12_play 13 = .ok (.iconst 0, 1) := by decide +kernel
theorem dX12_play_14 : decode cX12_play 14 = .ok (.bastore, 1) := by decide +kernel
theorem dX12_play_15 : decode cX12_play 15 = .ok (.iinc 2 1, 3) := by decide +kernel
theorem dX12_play_18 : decode cX12_play 18 = .ok (.goto (-16), 3) := by decide +kernel
theorem dX12_play_21 : decode cX12_play 21 = .ok (.iconst 0, 1) := by decide +kernel
theorem dX12_play_22 : decode cX12_play 22 = .ok (.istore_n 2, 1) := by decide +kernel
theorem dX12_play_23 : decode cX12_play 23 = .ok (.iload_n 2, 1) := by decide +kernel
theorem dX12_play_24 : decode cX12_play 24 = .ok (.iload_n 1, 1) := by decide +kernel
theorem dX12_play_25 : decode cX12_play 25 = .ok (.if_icmp .ge 72, 3) := by decide +kernel
theorem dX12_play_28 : decode cX12_play 28 = .ok (.aload_n 0, 1) := by decide +kernel
theorem dX12_play_29 : decode cX12_play 29 = .ok (.iload_n 2, 1) := by decide +kernel
theorem dX12_play_30 : decode cX12_play 30 = .ok (.invokevirtual 461, 3) := by decide +kernel
theorem dX12_play_33 : decode cX12_play 33 = .ok (.ifCond .ne 5, 3) := by decide +kernel
theorem dX12_play_36 : decode cX12_play 36 = .ok (.iload_n 2, 1) := by decide +kernel
theorem dX12_play_37 : decode cX12_play 37 = .ok (.ireturn, 1) := by decide +kernel
theorem dX12_play_38 : decode cX12_play 38 = .ok (.aload_n 0, 1) := by decide +kernel
theorem dX12_play_39 : decode cX12_play 39 = .ok (.iconst 1, 1) := by decide +kernel
theorem dX12_play_40 : decode cX12_play 40 = .ok (.aload_n 0, 1) := by decide +kernel
theorem dX12_play_41 : decode cX12_play 41 = .ok (.getfield 296, 3) := by decide +kernel
theorem dX12_play_44 : decode cX12_play 44 = .ok (.isub, 1) := by decide +kernel
theorem dX12_play_45 : decode cX12_play 45 = .ok (.invokevirtual 446, 3) := by decide +kernel
theorem dX12_play_48 : decode cX12_play 48 = .ok (.istore_n 3, 1) := by decide +kernel
theorem dX12_play_49 : decode cX12_play 49 = .ok (.aload_n 0, 1) := by decide +kernel
theorem dX12_play_50 : decode cX12_play 50 = .ok (.iconst 0, 1) := by decide +kernel
theorem dX12_play_51 : decode cX12_play 51 = .ok (.putfield 442, 3) := by decide +kernel
theorem dX12_play_54 : decode cX12_play 54 = .ok (.aload_n 0, 1) := by decide +kernel
theorem dX12_play_55 : decode cX12_play 55 = .ok (.aload_n 0, 1) := by decide +kernel
theorem dX12_play_56 : decode cX12_play 56 = .ok (.iload_n 2, 1) := by decide +kernel
theorem dX12_play_57 : decode cX12_play 57 = .ok (.iconst 0, 1) := by decide +kernel
theorem dX12_play_58 : decode cX12_play 58 = .ok (.invokevirtual 436, 3) := by decide +kernel
theorem dX12_play_61 : decode cX12_play 61 = .ok (.invokevirtual 464, 3) := by decide +kernel
theorem dX12_play_64 : decode cX12_play 64 = .ok (.aload_n 0, 1) := by decide +kernel
theorem dX12_play_65 : decode cX12_play 65 = .ok (.getfield 123, 3) := by decide +kernel
theorem dX12_play_68 : decode cX12_play 68 = .ok (.iload_n 3, 1) := by decide +kernel
theorem dX12_play_69 : decode cX12_play 69 = .ok (.aload_n 0, 1) := by decide +kernel
theorem dX12_play_70 : decode cX12_play 70 = .ok (.getfield 123, 3) := by decide +kernel
theorem dX12_play_73 : decode cX12_play 73 = .ok (.iload_n 3, 1) := by decide +kernel
theorem dX12_play_74 : decode cX12_play 74 = .ok (.baload, 1) := by decide +kernel
theorem dX12_play_75 : decode cX12_play 75 = .ok (.ifCond .ne 10, 3) := by decide +kernel
theorem dX12_play_78 : decode cX12_play 78 = .ok (.aload_n 0, 1) := by decide +kernel
theorem dX12_play_79 : decode cX12_play 79 = .ok (.getfield 442, 3) := by decide +kernel
theorem dX12_play_82 : decode cX12_play 82 = .ok (.ifCond .eq 7, 3) := by decide +kernel
theorem dX12_play_85 : decode cX12_play 85 = .ok (.iconst 1, 1) := by decide +kernel
theorem dX12_play_86 : decode cX12_play 86 = .ok (.goto 4, 3) := by decide +kernel
theorem dX12_play_89 : decode cX12_play 89 = .ok (.iconst 0, 1) := by decide +kernel
theorem dX12_play_90 : decode cX12_play 90 = .ok (.bastore, 1) := by decide +kernel
theorem dX12_play_91 : decode cX12_play 91 = .ok (.iinc 2 1, 3) := by decide +kernel
theorem dX12_play_94 : decode cX12_play 94 = .ok (.goto (-71), 3) := by decide +kernel
theorem dX12_play_97 : decode cX12_play 97 = .ok (.iload_n 1, 1) := by decide +kernel
theorem dX12_play_98 : decode cX12_play 98 = .ok (.ireturn, 1) := by decide +kernel
theorem dX12_layGame_0 : decode cX12_layGame 0 = .ok (.aload_n 0, 1) := by decide +kernel
theorem dX12_layGame_1 : decode cX12_layGame 1 = .ok (.iconst 2, 1) := by decide +kernel
theorem dX12_layGame_2 : decode cX12_layGame 2 = .ok (.iload_n 2, 1) := by decide +kernel
theorem dX12_layGame_3 : decode cX12_layGame 3 = .ok (.invokevirtual 268, 3) := by decide +kernel
theorem dX12_layGame_6 : decode cX12_layGame 6 = .ok (.ifCond .eq 11, 3) := by decide +kernel
theorem dX12_layGame_9 : decode cX12_layGame 9 = .ok (.aload_n 0, 1) := by decide +kernel
theorem dX12_layGame_10 : decode cX12_layGame 10 = .ok (.iload_n 1, 1) := by decide +kernel
theorem dX12_layGame_11 : decode cX12_layGame 11 = .ok (.invokevirtual 302, 3) := by decide +kernel
theorem dX12_layGame_14 : decode cX12_layGame 14 = .ok (.ifCond .ne 5, 3) := by decide +kernel
theorem dX12_layGame_17 : decode cX12_layGame 17 = .ok (.iconst 0, 1) := by decide +kernel
theorem dX12_layGame_18 : decode cX12_layGame 18 = .ok (.ireturn, 1) := by decide +kernel
theorem dX12_layGame_19 : decode cX12_layGame 19 = .ok (.aload_n 0, 1) := by decide +kernel
theorem dX12_layGame_20 : decode cX12_layGame 20 = .ok (.iload_n 2, 1) := by decide +kernel
theorem dX12_layGame_21 : decode cX12_layGame 21 = .ok (.putfield 430, 3) := by decide +kernel
theorem dX12_layGame_24 : decode cX12_layGame 24 = .ok (.iload_n 3, 1) := by decide +kernel
theorem dX12_layGame_25 : decode cX12_layGame 25 = .ok (.iconst 0, 1) := by decide +kernel
theorem dX12_layGame_26 : decode cX12_layGame 26 = .ok (.aload_n 0, 1) := by decide +kernel
theorem dX12_layGame_27 : decode cX12_layGame 27 = .ok (.invokevirtual 433, 3) := by decide +kernel
theorem dX12_layGame_30 : decode cX12_layGame 30 = .ok (.invokestatic 165, 3) := by decide +kernel
theorem dX12_layGame_33 : decode cX12_layGame 33 = .ok (.ifCond .eq 16, 3) := by decide +kernel
theorem dX12_layGame_36 : decode cX12_layGame 36 = .ok (.aload_n 0, 1) := by decide +kernel
theorem dX12_layGame_37 : decode cX12_layGame 37 = .ok (.iload_n 3, 1) := by decide +kernel
theorem dX12_layGame_38 : decode cX12_layGame 38 = .ok (.invokevirtual 467, 3) := by decide +kernel
theorem dX12_layGame_41 : decode cX12_layGame 41 = .ok (.iload_n 3, 1) := by decide +kernel
theorem dX12_layGame_42 : decode cX12_layGame 42 = .ok (.if_icmp .ne 7, 3) := by decide +kernel
theorem dX12_layGame_45 : decode cX12_layGame 45 = .ok (.iconst 1, 1) := by decide +kernel
theorem dX12_layGame_46 : decode cX12_layGame 46 = .ok (.goto 4, 3) := by decide +kernel
theorem dX12_layGame_49 : decode cX12_layGame 49 = .ok (.iconst 0, 1) := by decide +kernel
theorem dX12_layGame_50 : decode cX12_layGame 50 = .ok (.ireturn, 1) := by decide +kernel
theorem dX12_stop_0 : decode cX12_stop 0 = .ok (.aload_n 0, 1) := by decide +kernel
theorem dX12_stop_1 : decode cX12_stop 1 = .ok (.iconst 0, 1) := by decide +kernel
theorem dX12_stop_2 : decode cX12_stop 2 = .ok (.putfield 157, 3) := by decide +kernel
theorem dX12_stop_5 : decode cX12_stop 5 = .ok (.aload_n 0, 1) := by decide +kernel
theorem dX12_stop_6 : decode cX12_stop 6 = .ok (.iconst 2, 1) := by decide +kernel
theorem dX12_stop_7 : decode cX12_stop 7 = .ok (.iload_n 2, 1) := by decide +kernel
theorem dX12_stop_8 : decode cX12_stop 8 = .ok (.invokevirtual 268, 3) := by decide +kernel
theorem dX12_stop_11 : decode cX12_stop 11 = .ok (.ifCond .eq 11, 3) := by decide +kernel
theorem dX12_stop_14 : decode cX12_stop 14 = .ok (.aload_n 0, 1) := by decide +kernel
theorem dX12_stop_15 : decode cX12_stop 15 = .ok (.iload_n 1, 1) := by decide +kernel
theorem dX12_stop_16 : decode cX12_stop 16 = .ok (.invokevirtual 302, 3) := by decide +kernel
theorem dX12_stop_19 : decode cX12_stop 19 = .ok (.ifCond .ne 5, 3) := by decide +kernel
theorem dX12_stop_22 : decode cX12_stop 22 = .ok (.iconst (-1), 1) := by decide +kernel
theorem dX12_stop_23 : decode cX12_stop 23 = .ok (.ireturn, 1) := by decide +kernel
theorem dX12_stop_24 : decode cX12_stop 24 = .ok (.aload_n 0, 1) := by decide +kernel
theorem dX12_stop_25 : decode cX12_stop 25 = .ok (.iload_n 2, 1) := by decide +kernel
theorem dX12_stop_26 : decode cX12_stop 26 = .ok (.putfield 430, 3) := by decide +kernel
theorem dX12_stop_29 : decode cX12_stop 29 = .ok (.aload_n 0, 1) := by decide +kernel
theorem dX12_stop_30 : decode cX12_stop 30 = .ok (.aload_n 0, 1) := by decide +kernel
theorem dX12_stop_31 : decode cX12_stop 31 = .ok (.invokevirtual 433, 3) := by decide +kernel
theorem dX12_stop_34 : decode cX12_stop 34 = .ok (.invokevirtual 467, 3) := by decide +kernel
theorem dX12_stop_37 : decode cX12_stop 37 = .ok (.ireturn, 1) := by decide +kernel
theorem dX12_tells_0 : decode cX12_tells 0 = .ok (.iload_n 1, 1) := by decide +kernel
theorem dX12_tells_1 : decode cX12_tells 1 = .ok (.bipush 10, 2) := by decide +kernel
theorem dX12_tells_3 : decode cX12_tells 3 = .ok (.bipush 9, 2) := by decide +kernel
theorem dX12_tells_5 : decode cX12_tells 5 = .ok (.aload_n 0, 1) := by decide +kernel
theorem dX12_tells_6 : decode cX12_tells 6 = .ok (.getfield 287, 3) := by decide +kernel
theorem dX12_tells_9 : decode cX12_tells 9 = .ok (.iadd, 1) := by decide +kernel
theorem dX12_tells_10 : decode cX12_tells 10 = .ok (.invokestatic 165, 3) := by decide +kernel
theorem dX12_tells_13 : decode cX12_tells 13 = .ok (.ifCond .eq 13, 3) := by decide +kernel
theorem dX12_tells_16 : decode cX12_tells 16 = .ok (.aload_n 0, 1) := by decide +kernel
theorem dX12_tells_17 : decode cX12_tells 17 = .ok (.getfield 44, 3) := by decide +kernel
theorem dX12_tells_20 : decode cX12_tells 20 = .ok (.iload_n 1, 1) := by decide +kernel
theorem dX12_tells_21 : decode cX12_tells 21 = .ok (.bipush 10, 2) := by decide +kernel
theorem dX12_tells_23 : decode cX12_tells 23 = .ok (.isub, 1) := by decide +kernel
theorem dX12_tells_24 : decode cX12_tells 24 = .ok (.iaload, 1) := by decide +kernel
theorem dX12_tells_25 : decode cX12_tells 25 = .ok (.ireturn, 1) := by decide +kernel
theorem dX12_tells_26 : decode cX12_tells 26 = .ok (.iload_n 1, 1) := by decide +kernel
theorem dX12_tells_27 : decode cX12_tells 27 = .ok (.lookupswitch 92 #[(0, 57), (1, 62), (2, 75), (3, 75), (20, 83), (21, 83)], 57) := by decide +kernel
theorem dX12_tells_84 : decode cX12_tells 84 = .ok (.aload_n 0, 1) := by decide +kernel
theorem dX12_tells_85 : decode cX12_tells 85 = .ok (.getfield 296, 3) := by decide +kernel
theorem dX12_tells_88 : decode cX12_tells 88 = .ok (.ireturn, 1) := by decide +kernel
theorem dX12_tells_89 : decode cX12_tells 89 = .ok (.aload_n 0, 1) := by decide +kernel
theorem dX12_tells_90 : decode cX12_tells 90 = .ok (.invokevirtual 455, 3) := by decide +kernel
theorem dX12_tells_93 : decode cX12_tells 93 = .ok (.ifCond .eq 7, 3) := by decide +kernel
theorem dX12_tells_96 : decode cX12_tells 96 = .ok (.iconst 1, 1) := by decide +kernel
theorem dX12_tells_97 : decode cX12_tells 97 = .ok (.goto 4, 3) := by decide +kernel
theorem dX12_tells_100 : decode cX12_tells 100 = .ok (.iconst 0, 1) := by decide +kernel
theorem dX12_tells_101 : decode cX12_tells 101 = .ok (.ireturn, 1) := by decide +kernel
theorem dX12_tells_102 : decode cX12_tells 102 = .ok (.aload_n 0, 1) := by decide +kernel
theorem dX12_tells_103 : decode cX12_tells 103 = .ok (.iload_n 1, 1) := by decide +kernel
theorem dX12_tells_104 : decode cX12_tells 104 = .ok (.iconst 2, 1) := by decide +kernel
theorem dX12_tells_105 : decode cX12_tells 105 = .ok (.isub, 1) := by decide +kernel
theorem dX12_tells_106 : decode cX12_tells 106 = .ok (.invokevirtual 439, 3) := by decide +kernel
theorem dX12_tells_109 : decode cX12_tells 109 = .ok (.ireturn, 1) := by decide +kernel
theorem dX12_tells_110 : decode cX12_tells 110 = .ok (.aload_n 0, 1) := by decide +kernel
theorem dX12_tells_111 : decode cX12_tells 111 = .ok (.iload_n 1, 1) := by decide +kernel
theorem dX12_tells_112 : decode cX12_tells 112 = .ok (.bipush 20, 2) := by decide +kernel
theorem dX12_tells_114 : decode cX12_tells 114 = .ok (.isub, 1) := by decide +kernel
theorem dX12_tells_115 : decode cX12_tells 115 = .ok (.invokevirtual 446, 3) := by decide +kernel
theorem dX12_tells_118 : decode cX12_tells 118 = .ok (.ireturn, 1) := by decide +kernel
theorem dX12_tells_119 : decode cX12_tells 119 = .ok (.bipush (-2), 2) := by decide +kernel
theorem dX12_tells_121 : decode cX12_tells 121 = .ok (.ireturn, 1) := by decide +kernel
theorem dX12_state_0 : decode cX12_state 0 = .ok (.aload_n 0, 1) := by decide +kernel
theorem dX12_state_1 : decode cX12_state 1 = .ok (.iconst 0, 1) := by decide +kernel
theorem dX12_state_2 : decode cX12_state 2 = .ok (.putfield 157, 3) := by decide +kernel
theorem dX12_state_5 : decode cX12_state 5 = .ok (.aload_n 0, 1) := by decide +kernel
theorem dX12_state_6 : decode cX12_state 6 = .ok (.iload_n 1, 1) := by decide +kernel
theorem dX12_state_7 : decode cX12_state 7 = .ok (.iload_n 2, 1) := by decide +kernel
theorem dX12_state_8 : decode cX12_state 8 = .ok (.iload_n 3, 1) := by decide +kernel
theorem dX12_state_9 : decode cX12_state 9 = .ok (.invokevirtual 470, 3) := by decide +kernel
theorem dX12_state_12 : decode cX12_state 12 = .ok (.ifCond .eq 12, 3) := by decide +kernel
theorem dX12_state_15 : decode cX12_state 15 = .ok (.aload_n 0, 1) := by decide +kernel
theorem dX12_state_16 : decode cX12_state 16 = .ok (.iload 4, 2) := by decide +kernel
theorem dX12_state_18 : decode cX12_state 18 = .ok (.invokevirtual 473, 3) := by decide +kernel
theorem dX12_state_21 : decode cX12_state 21 = .ok (.goto 5, 3) := by decide +kernel
theorem dX12_state_24 : decode cX12_state 24 = .ok (.bipush (-2), 2) := by decide +kernel
theorem dX12_state_26 : decode cX12_state 26 = .ok (.ireturn, 1) := by decide +kernel
theorem dX12_may_0 : decode cX12_may 0 = .ok (.aload_n 0, 1) := by decide +kernel
theorem dX12_may_1 : decode cX12_may 1 = .ok (.iconst 0, 1) := by decide +kernel
theorem dX12_may_2 : decode cX12_may 2 = .ok (.putfield 157, 3) := by decide +kernel
theorem dX12_may_5 : decode cX12_may 5 = .ok (.aload_n 0, 1) := by decide +kernel
theorem dX12_may_6 : decode cX12_may 6 = .ok (.iload_n 1, 1) := by decide +kernel
theorem dX12_may_7 : decode cX12_may 7 = .ok (.iload_n 2, 1) := by decide +kernel
theorem dX12_may_8 : decode cX12_may 8 = .ok (.iload_n 3, 1) := by decide +kernel
theorem dX12_may_9 : decode cX12_may 9 = .ok (.invokevirtual 470, 3) := by decide +kernel
theorem dX12_may_12 : decode cX12_may 12 = .ok (.ifCond .eq 20, 3) := by decide +kernel
theorem dX12_may_15 : decode cX12_may 15 = .ok (.aload_n 0, 1) := by decide +kernel
theorem dX12_may_16 : decode cX12_may 16 = .ok (.invokevirtual 455, 3) := by decide +kernel
theorem dX12_may_19 : decode cX12_may 19 = .ok (.ifCond .ne 13, 3) := by decide +kernel
theorem dX12_may_22 : decode cX12_may 22 = .ok (.aload_n 0, 1) := by decide +kernel
theorem dX12_may_23 : decode cX12_may 23 = .ok (.iconst 1, 1) := by decide +kernel
theorem dX12_may_24 : decode cX12_may 24 = .ok (.iload 4, 2) := by decide +kernel
theorem dX12_may_26 : decode cX12_may 26 = .ok (.invokevirtual 268, 3) := by decide +kernel
theorem dX12_may_29 : decode cX12_may 29 = .ok (.ifCond .ne 7, 3) := by decide +kernel
theorem dX12_may_32 : decode cX12_may 32 = .ok (.ldc2_w 395, 3) := by decide +kernel
theorem dX12_may_35 : decode cX12_may 35 = .ok (.lreturn, 1) := by decide +kernel
theorem dX12_may_36 : decode cX12_may 36 = .ok (.aload_n 0, 1) := by decide +kernel
theorem dX12_may_37 : decode cX12_may 37 = .ok (.iload 4, 2) := by decide +kernel
theorem dX12_may_39 : decode cX12_may 39 = .ok (.invokevirtual 386, 3) := by decide +kernel
theorem dX12_may_42 : decode cX12_may 42 = .ok (.aload_n 0, 1) := by decide +kernel
theorem dX12_may_43 : decode cX12_may 43 = .ok (.iload_n 3, 1) := by decide +kernel
theorem dX12_may_44 : decode cX12_may 44 = .ok (.invokevirtual 452, 3) := by decide +kernel
theorem dX12_may_47 : decode cX12_may 47 = .ok (.aload_n 0, 1) := by decide +kernel
theorem dX12_may_48 : decode cX12_may 48 = .ok (.aload_n 0, 1) := by decide +kernel
theorem dX12_may_49 : decode cX12_may 49 = .ok (.iconst 1, 1) := by decide +kernel
theorem dX12_may_50 : decode cX12_may 50 = .ok (.aload_n 0, 1) := by decide +kernel
theorem dX12_may_51 : decode cX12_may 51 = .ok (.getfield 296, 3) := by decide +kernel
theorem dX12_may_54 : decode cX12_may 54 = .ok (.isub, 1) := by decide +kernel
theorem dX12_may_55 : decode cX12_may 55 = .ok (.invokevirtual 446, 3) := by decide +kernel
theorem dX12_may_58 : decode cX12_may 58 = .ok (.invokevirtual 392, 3) := by decide +kernel
theorem dX12_may_61 : decode cX12_may 61 = .ok (.lreturn, 1) := by decide +kernel
theorem dX12_isMove_0 : decode cX12_isMove 0 = .ok (.aload_n 0, 1) := by decide +kernel
theorem dX12_isMove_1 : decode cX12_isMove 1 = .ok (.iconst 2, 1) := by decide +kernel
theorem dX12_isMove_2 : decode cX12_isMove 2 = .ok (.iload_n 2, 1) := by decide +kernel
theorem dX12_isMove_3 : decode cX12_isMove 3 = .ok (.invokevirtual 268, 3) := by decide +kernel
theorem dX12_isMove_6 : decode cX12_isMove 6 = .ok (.ifCond .eq 46, 3) := by decide +kernel
theorem dX12_isMove_9 : decode cX12_isMove 9 = .ok (.aload_n 0, 1) := by decide +kernel
theorem dX12_isMove_10 : decode cX12_isMove 10 = .ok (.iconst 0, 1) := by decide +kernel
theorem dX12_isMove_11 : decode cX12_isMove 11 = .ok (.iload_n 1, 1) := by decide +kernel
theorem dX12_isMove_12 : decode cX12_isMove 12 = .ok (.invokevirtual 268, 3) := by decide +kernel
theorem dX12_isMove_15 : decode cX12_isMove 15 = .ok (.ifCond .eq 37, 3) := by decide +kernel
theorem dX12_isMove_18 : decode cX12_isMove 18 = .ok (.iload_n 3, 1) := by decide +kernel
theorem dX12_isMove_19 : decode cX12_isMove 19 = .ok (.ifCond .lt 33, 3) := by decide +kernel
theorem dX12_isMove_22 : decode cX12_isMove 22 = .ok (.aload_n 0, 1) := by decide +kernel
theorem dX12_isMove_23 : decode cX12_isMove 23 = .ok (.iload_n 1, 1) := by decide +kernel
theorem dX12_isMove_24 : decode cX12_isMove 24 = .ok (.iload_n 2, 1) := by decide +kernel
theorem dX12_isMove_25 : decode cX12_isMove 25 = .ok (.iload_n 3, 1) := by decide +kernel
theorem dX12_isMove_26 : decode cX12_isMove 26 = .ok (.invokevirtual 470, 3) := by decide +kernel
theorem dX12_isMove_29 : decode cX12_isMove 29 = .ok (.ifCond .eq 23, 3) := by decide +kernel
theorem dX12_isMove_32 : decode cX12_isMove 32 = .ok (.iload_n 3, 1) := by decide +kernel
theorem dX12_isMove_33 : decode cX12_isMove 33 = .ok (.aload_n 0, 1) := by decide +kernel
theorem dX12_isMove_34 : decode cX12_isMove 34 = .ok (.invokevirtual 433, 3) := by decide +kernel
theorem dX12_isMove_37 : decode cX12_isMove 37 = .ok (.if_icmp .ge 15, 3) := by decide +kernel
theorem dX12_isMove_40 : decode cX12_isMove 40 = .ok (.aload_n 0, 1) := by decide +kernel
theorem dX12_isMove_41 : decode cX12_isMove 41 = .ok (.iload_n 3, 1) := by decide +kernel
theorem dX12_isMove_42 : decode cX12_isMove 42 = .ok (.invokevirtual 461, 3) := by decide +kernel
theorem dX12_isMove_45 : decode cX12_isMove 45 = .ok (.ifCond .eq 7, 3) := by decide +kernel
theorem dX12_isMove_48 : decode cX12_isMove 48 = .ok (.iconst 1, 1) := by decide +kernel
theorem dX12_isMove_49 : decode cX12_isMove 49 = .ok (.goto 4, 3) := by decide +kernel
theorem dX12_isMove_52 : decode cX12_isMove 52 = .ok (.iconst 0, 1) := by decide +kernel
theorem dX12_isMove_53 : decode cX12_isMove 53 = .ok (.ireturn, 1) := by decide +kernel
theorem dX12_fatal_0 : decode cX12_fatal 0 = .ok (.aload_n 0, 1) := by decide +kernel
theorem dX12_fatal_1 : decode cX12_fatal 1 = .ok (.iconst 0, 1) := by decide +kernel
theorem dX12_fatal_2 : decode cX12_fatal 2 = .ok (.putfield 157, 3) := by decide +kernel
theorem dX12_fatal_5 : decode cX12_fatal 5 = .ok (.aload_n 0, 1) := by decide +kernel
theorem dX12_fatal_6 : decode cX12_fatal 6 = .ok (.iload_n 1, 1) := by decide +kernel
theorem dX12_fatal_7 : decode cX12_fatal 7 = .ok (.iload_n 2, 1) := by decide +kernel
theorem dX12_fatal_8 : decode cX12_fatal 8 = .ok (.iload_n 3, 1) := by decide +kernel
theorem dX12_fatal_9 : decode cX12_fatal 9 = .ok (.invokevirtual 476, 3) := by decide +kernel
theorem dX12_fatal_12 : decode cX12_fatal 12 = .ok (.ifCond .ne 5, 3) := by decide +kernel
theorem dX12_fatal_15 : decode cX12_fatal 15 = .ok (.iconst (-1), 1) := by decide +kernel
theorem dX12_fatal_16 : decode cX12_fatal 16 = .ok (.ireturn, 1) := by decide +kernel
theorem dX12_fatal_17 : decode cX12_fatal 17 = .ok (.aload_n 0, 1) := by decide +kernel
theorem dX12_fatal_18 : decode cX12_fatal 18 = .ok (.iconst 1, 1) := by decide +kernel
theorem dX12_fatal_19 : decode cX12_fatal 19 = .ok (.aload_n 0, 1) := by decide +kernel
theorem dX12_fatal_20 : decode cX12_fatal 20 = .ok (.getfield 296, 3) := by decide +kernel
theorem dX12_fatal_23 : decode cX12_fatal 23 = .ok (.isub, 1) := by decide +kernel
theorem dX12_fatal_24 : decode cX12_fatal 24 = .ok (.invokevirtual 446, 3) := by decide +kernel
theorem dX12_fatal_27 : decode cX12_fatal 27 = .ok (.istore 5, 2) := by decide +kernel
theorem dX12_fatal_29 : decode cX12_fatal 29 = .ok (.iconst 1, 1) := by decide +kernel
theorem dX12_fatal_30 : decode cX12_fatal 30 = .ok (.istore 6, 2) := by decide +kernel
theorem dX12_fatal_32 : decode cX12_fatal 32 = .ok (.iload 6, 2) := by decide +kernel
theorem dX12_fatal_34 : decode cX12_fatal 34 = .ok (.aload_n 0, 1) := by decide +kernel
theorem dX12_fatal_35 : decode cX12_fatal 35 = .ok (.getfield 75, 3) := by decide +kernel
theorem dX12_fatal_38 : decode cX12_fatal 38 = .ok (.iconst 0, 1) := by decide +kernel
theorem dX12_fatal_39 : decode cX12_fatal 39 = .ok (.iaload, 1) := by decide +kernel
theorem dX12_fatal_40 : decode cX12_fatal 40 = .ok (.if_icmp .gt 109, 3) := by decide +kernel
theorem dX12_fatal_43 : decode cX12_fatal 43 = .ok (.aload_n 0, 1) := by decide +kernel
theorem dX12_fatal_44 : decode cX12_fatal 44 = .ok (.getfield 75, 3) := by decide +kernel
theorem dX12_fatal_47 : decode cX12_fatal 47 = .ok (.iload 6, 2) := by decide +kernel
theorem dX12_fatal_49 : decode cX12_fatal 49 = .ok (.iaload, 1) := by decide +kernel
theorem dX12_fatal_50 : decode cX12_fatal 50 = .ok (.istore 7, 2) := by decide +kernel
theorem dX12_fatal_52 : decode cX12_fatal 52 = .ok (.iconst 0, 1) := by decide +kernel
theorem dX12_fatal_53 : decode cX12_fatal 53 = .ok (.istore 8, 2) := by decide +kernel
theorem dX12_fatal_55 : decode cX12_fatal 55 = .ok (.iload 8, 2) := by decide +kernel
theorem dX12_fatal_57 : decode cX12_fatal 57 = .ok (.bipush 10, 2) := by decide +kernel
theorem dX12_fatal_59 : decode cX12_fatal 59 = .ok (.if_icmp .ge 75, 3) := by decide +kernel
theorem dX12_fatal_62 : decode cX12_fatal 62 = .ok (.aload_n 0, 1) := by decide +kernel
theorem dX12_fatal_63 : decode cX12_fatal 63 = .ok (.getfield 75, 3) := by decide +kernel
theorem dX12_fatal_66 : decode cX12_fatal 66 = .ok (.iload 6, 2) := by decide +kernel
theorem dX12_fatal_68 : decode cX12_fatal 68 = .ok (.iload 8, 2) := by decide +kernel
theorem dX12_fatal_70 : decode cX12_fatal 70 = .ok (.iastore, 1) := by decide +kernel
theorem dX12_fatal_71 : decode cX12_fatal 71 = .ok (.iload 8, 2) := by decide +kernel
theorem dX12_fatal_73 : decode cX12_fatal 73 = .ok (.iload 7, 2) := by decide +kernel
theorem dX12_fatal_75 : decode cX12_fatal 75 = .ok (.if_icmp .ne 7, 3) := by decide +kernel
theorem dX12_fatal_78 : decode cX12_fatal 78 = .ok (.lconst 0, 1) := by decide +kernel
theorem dX12_fatal_79 : decode cX12_fatal 79 = .ok (.goto 9, 3) := by decide +kernel
theorem dX12_fatal_82 : decode cX12_fatal 82 = .ok (.aload_n 0, 1) := by decide +kernel
theorem dX12_fatal_83 : decode cX12_fatal 83 = .ok (.iload 5, 2) := by decide +kernel
theorem dX12_fatal_85 : decode cX12_fatal 85 = .ok (.invokevirtual 392, 3) := by decide +kernel
theorem dX12_fatal_88 : decode cX12_fatal 88 = .ok (.lstore 9, 2) := by decide +kernel
theorem dX12_fatal_90 : decode cX12_fatal 90 = .ok (.lload 9, 2) := by decide +kernel
theorem dX12_fatal_92 : decode cX12_fatal 92 = .ok (.lconst 0, 1) := by decide +kernel
theorem dX12_fatal_93 : decode cX12_fatal 93 = .ok (.lcmp, 1) := by decide +kernel
theorem dX12_fatal_94 : decode cX12_fatal 94 = .ok (.ifCond .eq 34, 3) := by decide +kernel
theorem dX12_fatal_97 : decode cX12_fatal 97 = .ok (.lload 9, 2) := by decide +kernel
theorem dX12_fatal_99 : decode cX12_fatal 99 = .ok (.aload_n 0, 1) := by decide +kernel
theorem dX12_fatal_100 : decode cX12_fatal 100 = .ok (.getfield 293, 3) := by decide +kernel
theorem dX12_fatal_103 : decode cX12_fatal 103 = .ok (.ldc2_w 395, 3) := by decide +kernel
theorem dX12_fatal_106 : decode cX12_fatal 106 = .ok (.lxor, 1) := by decide +kernel
theorem dX12_fatal_107 : decode cX12_fatal 107 = .ok (.land, 1) := by decide +kernel
theorem dX12_fatal_108 : decode cX12_fatal 108 = .ok (.lconst 0, 1) := by decide +kernel
theorem dX12_fatal_109 : decode cX12_fatal 109 = .ok (.lcmp, 1) := by decide +kernel
theorem dX12_fatal_110 : decode cX12_fatal 110 = .ok (.ifCond .ne 18, 3) := by decide +kernel
theorem dX12_fatal_113 : decode cX12_fatal 113 = .ok (.iload 4, 2) := by decide +kernel
theorem dX12_fatal_115 : decode cX12_fatal 115 = .ok (.ifCond .eq 8, 3) := by decide +kernel
theorem dX12_fatal_118 : decode cX12_fatal 118 = .ok (.iload 8, 2) := by decide +kernel
theorem dX12_fatal_120 : decode cX12_fatal 120 = .ok (.goto 7, 3) := by decide +kernel
theorem dX12_fatal_123 : decode cX12_fatal 123 = .ok (.iload 6, 2) := by decide +kernel
theorem dX12_fatal_125 : decode cX12_fatal 125 = .ok (.iconst 1, 1) := by decide +kernel
theorem dX12_fatal_126 : decode cX12_fatal 126 = .ok (.isub, 1) := by decide +kernel
theorem dX12_fatal_127 : decode cX12_fatal 127 = .ok (.ireturn, 1) := by decide +kernel
theorem dX12_fatal_128 : decode cX12_fatal 128 = .ok (.iinc 8 1, 3) := by decide +kernel
theorem dX12_fatal_131 : decode cX12_fatal 131 = .ok (.goto (-76), 3) := by decide +kernel
theorem dX12_fatal_134 : decode cX12_fatal 134 = .ok (.aload_n 0, 1) := by decide +kernel
theorem dX12_fatal_135 : decode cX12_fatal 135 = .ok (.getfield 75, 3) := by decide +kernel
theorem dX12_fatal_138 : decode cX12_fatal 138 = .ok (.iload 6, 2) := by decide +kernel
theorem dX12_fatal_140 : decode cX12_fatal 140 = .ok (.iload 7, 2) := by decide +kernel
theorem dX12_fatal_142 : decode cX12_fatal 142 = .ok (.iastore, 1) := by decide +kernel
theorem dX12_fatal_143 : decode cX12_fatal 143 = .ok (.iinc 6 1, 3) := by decide +kernel
theorem dX12_fatal_146 : decode cX12_fatal 146 = .ok (.goto (-114), 3) := by decide +kernel
theorem dX12_fatal_149 : decode cX12_fatal 149 = .ok (.iconst (-1), 1) := by decide +kernel
theorem dX12_fatal_150 : decode cX12_fatal 150 = .ok (.ireturn, 1) := by decide +kernel
theorem dX12_goodOf_0 : decode cX12_goodOf 0 = .ok (.lconst 0, 1) := by decide +kernel
theorem dX12_goodOf_1 : decode cX12_goodOf 1 = .ok (.lstore_n 3, 1) := by decide +kernel
theorem dX12_goodOf_2 : decode cX12_goodOf 2 = .ok (.aload_n 0, 1) := by decide +kernel
theorem dX12_goodOf_3 : decode cX12_goodOf 3 = .ok (.getfield 315, 3) := by decide +kernel
theorem dX12_goodOf_6 : decode cX12_goodOf 6 = .ok (.lstore 5, 2) := by decide +kernel
theorem dX12_goodOf_8 : decode cX12_goodOf 8 = .ok (.iconst 0, 1) := by decide +kernel
theorem dX12_goodOf_9 : decode cX12_goodOf 9 = .ok (.istore 7, 2) := by decide +kernel
theorem dX12_goodOf_11 : decode cX12_goodOf 11 = .ok (.iload 7, 2) := by decide +kernel
theorem dX12_goodOf_13 : decode cX12_goodOf 13 = .ok (.aload_n 0, 1) := by decide +kernel
theorem dX12_goodOf_14 : decode cX12_goodOf 14 = .ok (.getfield 284, 3) := by decide +kernel
theorem dX12_goodOf_17 : decode cX12_goodOf 17 = .ok (.if_icmp .ge 62, 3) := by decide +kernel
theorem dX12_goodOf_20 : decode cX12_goodOf 20 = .ok (.aload_n 0, 1) := by decide +kernel
theorem dX12_goodOf_21 : decode cX12_goodOf 21 = .ok (.lload 5, 2) := by decide +kernel
theorem dX12_goodOf_23 : decode cX12_goodOf 23 = .ok (.lconst 1, 1) := by decide +kernel
theorem dX12_goodOf_24 : decode cX12_goodOf 24 = .ok (.iload 7, 2) := by decide +kernel
theorem dX12_goodOf_26 : decode cX12_goodOf 26 = .ok (.lshl, 1) := by decide +kernel
theorem dX12_goodOf_27 : decode cX12_goodOf 27 = .ok (.ldc2_w 395, 3) := by decide +kernel
theorem dX12_goodOf_30 : decode cX12_goodOf 30 = .ok (.lxor, 1) := by decide +kernel
