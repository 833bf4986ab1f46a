theorem dX12_token_186 : decode cX12_token 186 = .ok (.getfield 193, 3) := by decide +kernel
theorem dX12_token_189 : decode cX12_token 189 = .ok (.imul, 1) := by decide +kernel
theorem dX12_token_190 : decode cX12_token 190 = .ok (.aload_n 0, 1) := by decide +kernel
theorem dX12_token_191 : decode cX12_token 191 = .ok (.invokevirtual 179, 3) := by decide +kernel
theorem dX12_token_194 : decode cX12_token 194 = .ok (.iadd, 1) := by decide +kernel
theorem dX12_token_195 : decode cX12_token 195 = .ok (.bipush 48, 2) := by decide +kernel
theorem dX12_token_197 : decode cX12_token 197 = .ok (.isub, 1) := by decide +kernel
theorem dX12_token_198 : decode cX12_token 198 = .ok (.goto 7, 3) := by decide +kernel
theorem dX12_token_201 : decode cX12_token 201 = .ok (.aload_n 0, 1) := by decide +kernel
theorem dX12_token_202 : decode cX12_token 202 = .ok (.getfield 193, 3) := by decide +kernel
theorem dX12_token_205 : decode cX12_token 205 = .ok (.putfield 193, 3) := by decide +kernel
theorem dX12_token_208 : decode cX12_token 208 = .ok (.aload_n 0, 1) := by decide +kernel
theorem dX12_token_209 : decode cX12_token 209 = .ok (.dup, 1) := by decide +kernel
theorem dX12_token_210 : decode cX12_token 210 = .ok (.getfield 173, 3) := by decide +kernel
theorem dX12_token_213 : decode cX12_token 213 = .ok (.iconst 1, 1) := by decide +kernel
theorem dX12_token_214 : decode cX12_token 214 = .ok (.iadd, 1) := by decide +kernel
theorem dX12_token_215 : decode cX12_token 215 = .ok (.putfield 173, 3) := by decide +kernel
theorem dX12_token_218 : decode cX12_token 218 = .ok (.iinc 2 1, 3) := by decide +kernel
theorem dX12_token_221 : decode cX12_token 221 = .ok (.goto (-58), 3) := by decide +kernel
theorem dX12_token_224 : decode cX12_token 224 = .ok (.aload_n 0, 1) := by decide +kernel
theorem dX12_token_225 : decode cX12_token 225 = .ok (.iload_n 2, 1) := by decide +kernel
theorem dX12_token_226 : decode cX12_token 226 = .ok (.iconst 2, 1) := by decide +kernel
theorem dX12_token_227 : decode cX12_token 227 = .ok (.if_icmp .le 7, 3) := by decide +kernel
theorem dX12_token_230 : decode cX12_token 230 = .ok (.iconst 1, 1) := by decide +kernel
theorem dX12_token_231 : decode cX12_token 231 = .ok (.goto 4, 3) := by decide +kernel
theorem dX12_token_234 : decode cX12_token 234 = .ok (.iconst 3, 1) := by decide +kernel
theorem dX12_token_235 : decode cX12_token 235 = .ok (.putfield 190, 3) := by decide +kernel
theorem dX12_token_238 : decode cX12_token 238 = .ok (.goto 28, 3) := by decide +kernel
theorem dX12_token_241 : decode cX12_token 241 = .ok (.aload_n 0, 1) := by decide +kernel
theorem dX12_token_242 : decode cX12_token 242 = .ok (.dup, 1) := by decide +kernel
theorem dX12_token_243 : decode cX12_token 243 = .ok (.getfield 173, 3) := by decide +kernel
theorem dX12_token_246 : decode cX12_token 246 = .ok (.iconst 1, 1) := by decide +kernel
theorem dX12_token_247 : decode cX12_token 247 = .ok (.iadd, 1) := by decide +kernel
theorem dX12_token_248 : decode cX12_token 248 = .ok (.putfield 173, 3) := by decide +kernel
theorem dX12_token_251 : decode cX12_token 251 = .ok (.aload_n 0, 1) := by decide +kernel
theorem dX12_token_252 : decode cX12_token 252 = .ok (.iload_n 1, 1) := by decide +kernel
theorem dX12_token_253 : decode cX12_token 253 = .ok (.bipush 59, 2) := by decide +kernel
theorem dX12_token_255 : decode cX12_token 255 = .ok (.if_icmp .ne 7, 3) := by decide +kernel
theorem dX12_token_258 : decode cX12_token 258 = .ok (.iconst 4, 1) := by decide +kernel
theorem dX12_token_259 : decode cX12_token 259 = .ok (.goto 4, 3) := by decide +kernel
theorem dX12_token_262 : decode cX12_token 262 = .ok (.iconst 1, 1) := by decide +kernel
theorem dX12_token_263 : decode cX12_token 263 = .ok (.putfield 190, 3) := by decide +kernel
theorem dX12_token_266 : decode cX12_token 266 = .ok (.return_, 1) := by decide +kernel
theorem dX12_stops_0 : decode cX12_stops 0 = .ok (.aload_n 0, 1) := by decide +kernel
theorem dX12_stops_1 : decode cX12_stops 1 = .ok (.aload_n 0, 1) := by decide +kernel
theorem dX12_stops_2 : decode cX12_stops 2 = .ok (.getfield 183, 3) := by decide +kernel
theorem dX12_stops_5 : decode cX12_stops 5 = .ok (.putfield 196, 3) := by decide +kernel
theorem dX12_stops_8 : decode cX12_stops 8 = .ok (.iconst 0, 1) := by decide +kernel
theorem dX12_stops_9 : decode cX12_stops 9 = .ok (.ireturn, 1) := by decide +kernel
theorem dX12_later_0 : decode cX12_later 0 = .ok (.aload_n 0, 1) := by decide +kernel
theorem dX12_later_1 : decode cX12_later 1 = .ok (.getfield 199, 3) := by decide +kernel
theorem dX12_later_4 : decode cX12_later 4 = .ok (.ifCond .eq 27, 3) := by decide +kernel
theorem dX12_later_7 : decode cX12_later 7 = .ok (.iload_n 2, 1) := by decide +kernel
theorem dX12_later_8 : decode cX12_later 8 = .ok (.aload_n 0, 1) := by decide +kernel
theorem dX12_later_9 : decode cX12_later 9 = .ok (.getfield 202, 3) := by decide +kernel
theorem dX12_later_12 : decode cX12_later 12 = .ok (.if_icmp .lt 19, 3) := by decide +kernel
theorem dX12_later_15 : decode cX12_later 15 = .ok (.iload_n 2, 1) := by decide +kernel
theorem dX12_later_16 : decode cX12_later 16 = .ok (.aload_n 0, 1) := by decide +kernel
theorem dX12_later_17 : decode cX12_later 17 = .ok (.getfield 202, 3) := by decide +kernel
theorem dX12_later_20 : decode cX12_later 20 = .ok (.if_icmp .ne 21, 3) := by decide +kernel
theorem dX12_later_23 : decode cX12_later 23 = .ok (.iload_n 1, 1) := by decide +kernel
theorem dX12_later_24 : decode cX12_later 24 = .ok (.aload_n 0, 1) := by decide +kernel
theorem dX12_later_25 : decode cX12_later 25 = .ok (.getfield 199, 3) := by decide +kernel
theorem dX12_later_28 : decode cX12_later 28 = .ok (.if_icmp .ge 13, 3) := by decide +kernel
theorem dX12_later_31 : decode cX12_later 31 = .ok (.aload_n 0, 1) := by decide +kernel
theorem dX12_later_32 : decode cX12_later 32 = .ok (.iload_n 1, 1) := by decide +kernel
theorem dX12_later_33 : decode cX12_later 33 = .ok (.putfield 199, 3) := by decide +kernel
theorem dX12_later_36 : decode cX12_later 36 = .ok (.aload_n 0, 1) := by decide +kernel
theorem dX12_later_37 : decode cX12_later 37 = .ok (.iload_n 2, 1) := by decide +kernel
theorem dX12_later_38 : decode cX12_later 38 = .ok (.putfield 202, 3) := by decide +kernel
theorem dX12_later_41 : decode cX12_later 41 = .ok (.return_, 1) := by decide +kernel
theorem dX12_take_0 : decode cX12_take 0 = .ok (.aload_n 0, 1) := by decide +kernel
theorem dX12_take_1 : decode cX12_take 1 = .ok (.getfield 190, 3) := by decide +kernel
theorem dX12_take_4 : decode cX12_take 4 = .ok (.iconst 3, 1) := by decide +kernel
theorem dX12_take_5 : decode cX12_take 5 = .ok (.if_icmp .eq 8, 3) := by decide +kernel
theorem dX12_take_8 : decode cX12_take 8 = .ok (.aload_n 0, 1) := by decide +kernel
theorem dX12_take_9 : decode cX12_take 9 = .ok (.invokevirtual 205, 3) := by decide +kernel
theorem dX12_take_12 : decode cX12_take 12 = .ok (.ireturn, 1) := by decide +kernel
theorem dX12_take_13 : decode cX12_take 13 = .ok (.aload_n 0, 1) := by decide +kernel
theorem dX12_take_14 : decode cX12_take 14 = .ok (.aload_n 0, 1) := by decide +kernel
theorem dX12_take_15 : decode cX12_take 15 = .ok (.getfield 193, 3) := by decide +kernel
theorem dX12_take_18 : decode cX12_take 18 = .ok (.putfield 209, 3) := by decide +kernel
theorem dX12_take_21 : decode cX12_take 21 = .ok (.aload_n 0, 1) := by decide +kernel
theorem dX12_take_22 : decode cX12_take 22 = .ok (.getfield 193, 3) := by decide +kernel
theorem dX12_take_25 : decode cX12_take 25 = .ok (.iload_n 1, 1) := by decide +kernel
theorem dX12_take_26 : decode cX12_take 26 = .ok (.iload_n 2, 1) := by decide +kernel
theorem dX12_take_27 : decode cX12_take 27 = .ok (.invokestatic 165, 3) := by decide +kernel
theorem dX12_take_30 : decode cX12_take 30 = .ok (.ifCond .ne 12, 3) := by decide +kernel
theorem dX12_take_33 : decode cX12_take 33 = .ok (.aload_n 0, 1) := by decide +kernel
theorem dX12_take_34 : decode cX12_take 34 = .ok (.iconst 2, 1) := by decide +kernel
theorem dX12_take_35 : decode cX12_take 35 = .ok (.aload_n 0, 1) := by decide +kernel
theorem dX12_take_36 : decode cX12_take 36 = .ok (.getfield 183, 3) := by decide +kernel
theorem dX12_take_39 : decode cX12_take 39 = .ok (.invokevirtual 212, 3) := by decide +kernel
theorem dX12_take_42 : decode cX12_take 42 = .ok (.aload_n 0, 1) := by decide +kernel
theorem dX12_take_43 : decode cX12_take 43 = .ok (.invokevirtual 216, 3) := by decide +kernel
theorem dX12_take_46 : decode cX12_take 46 = .ok (.iconst 1, 1) := by decide +kernel
theorem dX12_take_47 : decode cX12_take 47 = .ok (.ireturn, 1) := by decide +kernel
theorem dX12_takeField_0 : decode cX12_takeField 0 = .ok (.aload_n 0, 1) := by decide +kernel
theorem dX12_takeField_1 : decode cX12_takeField 1 = .ok (.iconst 0, 1) := by decide +kernel
theorem dX12_takeField_2 : decode cX12_takeField 2 = .ok (.bipush 35, 2) := by decide +kernel
theorem dX12_takeField_4 : decode cX12_takeField 4 = .ok (.invokevirtual 219, 3) := by decide +kernel
theorem dX12_takeField_7 : decode cX12_takeField 7 = .ok (.istore_n 1, 1) := by decide +kernel
theorem dX12_takeField_8 : decode cX12_takeField 8 = .ok (.aload_n 0, 1) := by decide +kernel
theorem dX12_takeField_9 : decode cX12_takeField 9 = .ok (.iload_n 1, 1) := by decide +kernel
theorem dX12_takeField_10 : decode cX12_takeField 10 = .ok (.ifCond .eq 21, 3) := by decide +kernel
theorem dX12_takeField_13 : decode cX12_takeField 13 = .ok (.aload_n 0, 1) := by decide +kernel
theorem dX12_takeField_14 : decode cX12_takeField 14 = .ok (.getfield 209, 3) := by decide +kernel
theorem dX12_takeField_17 : decode cX12_takeField 17 = .ok (.aload_n 0, 1) := by decide +kernel
theorem dX12_takeField_18 : decode cX12_takeField 18 = .ok (.getfield 223, 3) := by decide +kernel
theorem dX12_takeField_21 : decode cX12_takeField 21 = .ok (.if_icmp .le 10, 3) := by decide +kernel
theorem dX12_takeField_24 : decode cX12_takeField 24 = .ok (.aload_n 0, 1) := by decide +kernel
theorem dX12_takeField_25 : decode cX12_takeField 25 = .ok (.getfield 209, 3) := by decide +kernel
theorem dX12_takeField_28 : decode cX12_takeField 28 = .ok (.goto 7, 3) := by decide +kernel
theorem dX12_takeField_31 : decode cX12_takeField 31 = .ok (.aload_n 0, 1) := by decide +kernel
theorem dX12_takeField_32 : decode cX12_takeField 32 = .ok (.getfield 223, 3) := by decide +kernel
theorem dX12_takeField_35 : decode cX12_takeField 35 = .ok (.putfield 223, 3) := by decide +kernel
theorem dX12_takeField_38 : decode cX12_takeField 38 = .ok (.iload_n 1, 1) := by decide +kernel
theorem dX12_takeField_39 : decode cX12_takeField 39 = .ok (.ireturn, 1) := by decide +kernel
theorem dX12_signOf_0 : decode cX12_signOf 0 = .ok (.iload_n 0, 1) := by decide +kernel
theorem dX12_signOf_1 : decode cX12_signOf 1 = .ok (.bipush 110, 2) := by decide +kernel
theorem dX12_signOf_3 : decode cX12_signOf 3 = .ok (.if_icmp .ne 7, 3) := by decide +kernel
theorem dX12_signOf_6 : decode cX12_signOf 6 = .ok (.iconst 0, 1) := by decide +kernel
theorem dX12_signOf_7 : decode cX12_signOf 7 = .ok (.goto 109, 3) := by decide +kernel
theorem dX12_signOf_10 : decode cX12_signOf 10 = .ok (.iload_n 0, 1) := by decide +kernel
theorem dX12_signOf_11 : decode cX12_signOf 11 = .ok (.bipush 101, 2) := by decide +kernel
theorem dX12_signOf_13 : decode cX12_signOf 13 = .ok (.if_icmp .ne 7, 3) := by decide +kernel
theorem dX12_signOf_16 : decode cX12_signOf 16 = .ok (.iconst 1, 1) := by decide +kernel
theorem dX12_signOf_17 : decode cX12_signOf 17 = .ok (.goto 99, 3) := by decide +kernel
theorem dX12_signOf_20 : decode cX12_signOf 20 = .ok (.iload_n 0, 1) := by decide +kernel
theorem dX12_signOf_21 : decode cX12_signOf 21 = .ok (.bipush 115, 2) := by decide +kernel
theorem dX12_signOf_23 : decode cX12_signOf 23 = .ok (.if_icmp .ne 7, 3) := by decide +kernel
theorem dX12_signOf_26 : decode cX12_signOf 26 = .ok (.iconst 2, 1) := by decide +kernel
theorem dX12_signOf_27 : decode cX12_signOf 27 = .ok (.goto 89, 3) := by decide +kernel
theorem dX12_signOf_30 : decode cX12_signOf 30 = .ok (.iload_n 0, 1) := by decide +kernel
theorem dX12_signOf_31 : decode cX12_signOf 31 = .ok (.bipush 119, 2) := by decide +kernel
theorem dX12_signOf_33 : decode cX12_signOf 33 = .ok (.if_icmp .ne 7, 3) := by decide +kernel
theorem dX12_signOf_36 : decode cX12_signOf 36 = .ok (.iconst 3, 1) := by decide +kernel
theorem dX12_signOf_37 : decode cX12_signOf 37 = .ok (.goto 79, 3) := by decide +kernel
theorem dX12_signOf_40 : decode cX12_signOf 40 = .ok (.iload_n 0, 1) := by decide +kernel
theorem dX12_signOf_41 : decode cX12_signOf 41 = .ok (.bipush 97, 2) := by decide +kernel
theorem dX12_signOf_43 : decode cX12_signOf 43 = .ok (.if_icmp .ne 7, 3) := by decide +kernel
theorem dX12_signOf_46 : decode cX12_signOf 46 = .ok (.iconst 4, 1) := by decide +kernel
theorem dX12_signOf_47 : decode cX12_signOf 47 = .ok (.goto 69, 3) := by decide +kernel
theorem dX12_signOf_50 : decode cX12_signOf 50 = .ok (.iload_n 0, 1) := by decide +kernel
theorem dX12_signOf_51 : decode cX12_signOf 51 = .ok (.bipush 116, 2) := by decide +kernel
theorem dX12_signOf_53 : decode cX12_signOf 53 = .ok (.if_icmp .ne 7, 3) := by decide +kernel
theorem dX12_signOf_56 : decode cX12_signOf 56 = .ok (.iconst 5, 1) := by decide +kernel
theorem dX12_signOf_57 : decode cX12_signOf 57 = .ok (.goto 59, 3) := by decide +kernel
theorem dX12_signOf_60 : decode cX12_signOf 60 = .ok (.iload_n 0, 1) := by decide +kernel
theorem dX12_signOf_61 : decode cX12_signOf 61 = .ok (.bipush 120, 2) := by decide +kernel
theorem dX12_signOf_63 : decode cX12_signOf 63 = .ok (.if_icmp .ne 8, 3) := by decide +kernel
theorem dX12_signOf_66 : decode cX12_signOf 66 = .ok (.bipush 6, 2) := by decide +kernel
theorem dX12_signOf_68 : decode cX12_signOf 68 = .ok (.goto 48, 3) := by decide +kernel
theorem dX12_signOf_71 : decode cX12_signOf 71 = .ok (.iload_n 0, 1) := by decide +kernel
theorem dX12_signOf_72 : decode cX12_signOf 72 = .ok (.bipush 117, 2) := by decide +kernel
theorem dX12_signOf_74 : decode cX12_signOf 74 = .ok (.if_icmp .ne 8, 3) := by decide +kernel
theorem dX12_signOf_77 : decode cX12_signOf 77 = .ok (.bipush 7, 2) := by decide +kernel
theorem dX12_signOf_79 : decode cX12_signOf 79 = .ok (.goto 37, 3) := by decide +kernel
theorem dX12_signOf_82 : decode cX12_signOf 82 = .ok (.iload_n 0, 1) := by decide +kernel
theorem dX12_signOf_83 : decode cX12_signOf 83 = .ok (.bipush 98, 2) := by decide +kernel
theorem dX12_signOf_85 : decode cX12_signOf 85 = .ok (.if_icmp .ne 8, 3) := by decide +kernel
theorem dX12_signOf_88 : decode cX12_signOf 88 = .ok (.bipush 8, 2) := by decide +kernel
theorem dX12_signOf_90 : decode cX12_signOf 90 = .ok (.goto 26, 3) := by decide +kernel
theorem dX12_signOf_93 : decode cX12_signOf 93 = .ok (.iload_n 0, 1) := by decide +kernel
theorem dX12_signOf_94 : decode cX12_signOf 94 = .ok (.bipush 103, 2) := by decide +kernel
theorem dX12_signOf_96 : decode cX12_signOf 96 = .ok (.if_icmp .ne 8, 3) := by decide +kernel
theorem dX12_signOf_99 : decode cX12_signOf 99 = .ok (.bipush 9, 2) := by decide +kernel
theorem dX12_signOf_101 : decode cX12_signOf 101 = .ok (.goto 15, 3) := by decide +kernel
theorem dX12_signOf_104 : decode cX12_signOf 104 = .ok (.iload_n 0, 1) := by decide +kernel
theorem dX12_signOf_105 : decode cX12_signOf 105 = .ok (.bipush 113, 2) := by decide +kernel
theorem dX12_signOf_107 : decode cX12_signOf 107 = .ok (.if_icmp .ne 8, 3) := by decide +kernel
theorem dX12_signOf_110 : decode cX12_signOf 110 = .ok (.bipush 10, 2) := by decide +kernel
theorem dX12_signOf_112 : decode cX12_signOf 112 = .ok (.goto 4, 3) := by decide +kernel
theorem dX12_signOf_115 : decode cX12_signOf 115 = .ok (.iconst (-1), 1) := by decide +kernel
theorem dX12_signOf_116 : decode cX12_signOf 116 = .ok (.ireturn, 1) := by decide +kernel
theorem dX12_takeRule_0 : decode cX12_takeRule 0 = .ok (.aload_n 0, 1) := by decide +kernel
theorem dX12_takeRule_1 : decode cX12_takeRule 1 = .ok (.getfield 173, 3) := by decide +kernel
theorem dX12_takeRule_4 : decode cX12_takeRule 4 = .ok (.aload_n 0, 1) := by decide +kernel
theorem dX12_takeRule_5 : decode cX12_takeRule 5 = .ok (.getfield 183, 3) := by decide +kernel
theorem dX12_takeRule_8 : decode cX12_takeRule 8 = .ok (.isub, 1) := by decide +kernel
theorem dX12_takeRule_9 : decode cX12_takeRule 9 = .ok (.istore_n 1, 1) := by decide +kernel
theorem dX12_takeRule_10 : decode cX12_takeRule 10 = .ok (.aload_n 0, 1) := by decide +kernel
theorem dX12_takeRule_11 : decode cX12_takeRule 11 = .ok (.getfield 190, 3) := by decide +kernel
theorem dX12_takeRule_14 : decode cX12_takeRule 14 = .ok (.iconst 2, 1) := by decide +kernel
theorem dX12_takeRule_15 : decode cX12_takeRule 15 = .ok (.if_icmp .ne 9, 3) := by decide +kernel
theorem dX12_takeRule_18 : decode cX12_takeRule 18 = .ok (.iload_n 1, 1) := by decide +kernel
theorem dX12_takeRule_19 : decode cX12_takeRule 19 = .ok (.bipush 9, 2) := by decide +kernel
theorem dX12_takeRule_21 : decode cX12_takeRule 21 = .ok (.if_icmp .le 8, 3) := by decide +kernel
theorem dX12_takeRule_24 : decode cX12_takeRule 24 = .ok (.aload_n 0, 1) := by decide +kernel
theorem dX12_takeRule_25 : decode cX12_takeRule 25 = .ok (.invokevirtual 205, 3) := by decide +kernel
theorem dX12_takeRule_28 : decode cX12_takeRule 28 = .ok (.ireturn, 1) := by decide +kernel
theorem dX12_takeRule_29 : decode cX12_takeRule 29 = .ok (.iconst 0, 1) := by decide +kernel
theorem dX12_takeRule_30 : decode cX12_takeRule 30 = .ok (.istore_n 2, 1) := by decide +kernel
theorem dX12_takeRule_31 : decode cX12_takeRule 31 = .ok (.aload_n 0, 1) := by decide +kernel
theorem dX12_takeRule_32 : decode cX12_takeRule 32 = .ok (.getfield 38, 3) := by decide +kernel
theorem dX12_takeRule_35 : decode cX12_takeRule 35 = .ok (.iconst 0, 1) := by decide +kernel
theorem dX12_takeRule_36 : decode cX12_takeRule 36 = .ok (.iload_n 1, 1) := by decide +kernel
theorem dX12_takeRule_37 : decode cX12_takeRule 37 = .ok (.iastore, 1) := by decide +kernel
theorem dX12_takeRule_38 : decode cX12_takeRule 38 = .ok (.iconst 0, 1) := by decide +kernel
theorem dX12_takeRule_39 : decode cX12_takeRule 39 = .ok (.istore_n 3, 1) := by decide +kernel
theorem dX12_takeRule_40 : decode cX12_takeRule 40 = .ok (.iload_n 3, 1) := by decide +kernel
theorem dX12_takeRule_41 : decode cX12_takeRule 41 = .ok (.iload_n 1, 1) := by decide +kernel
theorem dX12_takeRule_42 : decode cX12_takeRule 42 = .ok (.if_icmp .ge 66, 3) := by decide +kernel
theorem dX12_takeRule_45 : decode cX12_takeRule 45 = .ok (.aload_n 0, 1) := by decide +kernel
theorem dX12_takeRule_46 : decode cX12_takeRule 46 = .ok (.getfield 7, 3) := by decide +kernel
theorem dX12_takeRule_49 : decode cX12_takeRule 49 = .ok (.aload_n 0, 1) := by decide +kernel
theorem dX12_takeRule_50 : decode cX12_takeRule 50 = .ok (.getfield 183, 3) := by decide +kernel
theorem dX12_takeRule_53 : decode cX12_takeRule 53 = .ok (.iload_n 3, 1) := by decide +kernel
theorem dX12_takeRule_54 : decode cX12_takeRule 54 = .ok (.iadd, 1) := by decide +kernel
theorem dX12_takeRule_55 : decode cX12_takeRule 55 = .ok (.baload, 1) := by decide +kernel
theorem dX12_takeRule_56 : decode cX12_takeRule 56 = .ok (.invokestatic 226, 3) := by decide +kernel
theorem dX12_takeRule_59 : decode cX12_takeRule 59 = .ok (.istore 4, 2) := by decide +kernel
theorem dX12_takeRule_61 : decode cX12_takeRule 61 = .ok (.iload_n 2, 1) := by decide +kernel
theorem dX12_takeRule_62 : decode cX12_takeRule 62 = .ok (.iload 4, 2) := by decide +kernel
theorem dX12_takeRule_64 : decode cX12_takeRule 64 = .ok (.bipush 10, 2) := by decide +kernel
theorem dX12_takeRule_66 : decode cX12_takeRule 66 = .ok (.if_icmp .ne 7, 3) := by decide +kernel
theorem dX12_takeRule_69 : decode cX12_takeRule 69 = .ok (.iconst 1, 1) := by decide +kernel
theorem dX12_takeRule_70 : decode cX12_takeRule 70 = .ok (.goto 4, 3) := by decide +kernel
theorem dX12_takeRule_73 : decode cX12_takeRule 73 = .ok (.iconst 0, 1) := by decide +kernel
theorem dX12_takeRule_74 : decode cX12_takeRule 74 = .ok (.iadd, 1) := by decide +kernel
theorem dX12_takeRule_75 : decode cX12_takeRule 75 = .ok (.istore_n 2, 1) := by decide +kernel
theorem dX12_takeRule_76 : decode cX12_takeRule 76 = .ok (.iload 4, 2) := by decide +kernel
theorem dX12_takeRule_78 : decode cX12_takeRule 78 = .ok (.iconst (-1), 1) := by decide +kernel
theorem dX12_takeRule_79 : decode cX12_takeRule 79 = .ok (.if_icmp .eq 8, 3) := by decide +kernel
theorem dX12_takeRule_82 : decode cX12_takeRule 82 = .ok (.iload_n 2, 1) := by decide +kernel
theorem dX12_takeRule_83 : decode cX12_takeRule 83 = .ok (.iconst 1, 1) := by decide +kernel
theorem dX12_takeRule_84 : decode cX12_takeRule 84 = .ok (.if_icmp .le 8, 3) := by decide +kernel
theorem dX12_takeRule_87 : decode cX12_takeRule 87 = .ok (.aload_n 0, 1) := by decide +kernel
theorem dX12_takeRule_88 : decode cX12_takeRule 88 = .ok (.invokevirtual 205, 3) := by decide +kernel
theorem dX12_takeRule_91 : decode cX12_takeRule 91 = .ok (.ireturn, 1) := by decide +kernel
theorem dX12_takeRule_92 : decode cX12_takeRule 92 = .ok (.aload_n 0, 1) := by decide +kernel
theorem dX12_takeRule_93 : decode cX12_takeRule 93 = .ok (.getfield 38, 3) := by decide +kernel
theorem dX12_takeRule_96 : decode cX12_takeRule 96 = .ok (.iconst 1, 1) := by decide +kernel
theorem dX12_takeRule_97 : decode cX12_takeRule 97 = .ok (.iload_n 3, 1) := by decide +kernel
theorem dX12_takeRule_98 : decode cX12_takeRule 98 = .ok (.iadd, 1) := by decide +kernel
theorem dX12_takeRule_99 : decode cX12_takeRule 99 = .ok (.iload 4, 2) := by decide +kernel
theorem dX12_takeRule_101 : decode cX12_takeRule 101 = .ok (.iastore, 1) := by decide +kernel
theorem dX12_takeRule_102 : decode cX12_takeRule 102 = .ok (.iinc 3 1, 3) := by decide +kernel
theorem dX12_takeRule_105 : decode cX12_takeRule 105 = .ok (.goto (-65), 3) := by decide +kernel
theorem dX12_takeRule_108 : decode cX12_takeRule 108 = .ok (.aload_n 0, 1) := by decide +kernel
theorem dX12_takeRule_109 : decode cX12_takeRule 109 = .ok (.invokevirtual 216, 3) := by decide +kernel
theorem dX12_takeRule_112 : decode cX12_takeRule 112 = .ok (.iconst 1, 1) := by decide +kernel
theorem dX12_takeRule_113 : decode cX12_takeRule 113 = .ok (.ireturn, 1) := by decide +kernel
theorem dX12_boardLine_0 : decode cX12_boardLine 0 = .ok (.lload_n 1, 1) := by decide +kernel
theorem dX12_boardLine_1 : decode cX12_boardLine 1 = .ok (.ldc2_w 230, 3) := by decide +kernel
theorem dX12_boardLine_4 : decode cX12_boardLine 4 = .ok (.lcmp, 1) := by decide +kernel
theorem dX12_boardLine_5 : decode cX12_boardLine 5 = .ok (.ifCond .eq 32, 3) := by decide +kernel
theorem dX12_boardLine_8 : decode cX12_boardLine 8 = .ok (.lload_n 1, 1) := by decide +kernel
theorem dX12_boardLine_9 : decode cX12_boardLine 9 = .ok (.ldc2_w 232, 3) := by decide +kernel
theorem dX12_boardLine_12 : decode cX12_boardLine 12 = .ok (.lcmp, 1) := by decide +kernel
theorem dX12_boardLine_13 : decode cX12_boardLine 13 = .ok (.ifCond .eq 24, 3) := by decide +kernel
theorem dX12_boardLine_16 : decode cX12_boardLine 16 = .ok (.lload_n 1, 1) := by decide +kernel
theorem dX12_boardLine_17 : decode cX12_boardLine 17 = .ok (.ldc2_w 234, 3) := by decide +kernel
theorem dX12_boardLine_20 : decode cX12_boardLine 20 = .ok (.lcmp, 1) := by decide +kernel
theorem dX12_boardLine_21 : decode cX12_boardLine 21 = .ok (.ifCond .eq 16, 3) := by decide +kernel
theorem dX12_boardLine_24 : decode cX12_boardLine 24 = .ok (.lload_n 1, 1) := by decide +kernel
theorem dX12_boardLine_25 : decode cX12_boardLine 25 = .ok (.ldc2_w 236, 3) := by decide +kernel
theorem dX12_boardLine_28 : decode cX12_boardLine 28 = .ok (.lcmp, 1) := by decide +kernel
theorem dX12_boardLine_29 : decode cX12_boardLine 29 = .ok (.ifCond .eq 8, 3) := by decide +kernel
theorem dX12_boardLine_32 : decode cX12_boardLine 32 = .ok (.aload_n 0, 1) := by decide +kernel
theorem dX12_boardLine_33 : decode cX12_boardLine 33 = .ok (.invokevirtual 205, 3) := by decide +kernel
theorem dX12_boardLine_36 : decode cX12_boardLine 36 = .ok (.ireturn, 1) := by decide +kernel
theorem dX12_boardLine_37 : decode cX12_boardLine 37 = .ok (.lload_n 1, 1) := by decide +kernel
theorem dX12_boardLine_38 : decode cX12_boardLine 38 = .ok (.ldc2_w 236, 3) := by decide +kernel
theorem dX12_boardLine_41 : decode cX12_boardLine 41 = .ok (.lcmp, 1) := by decide +kernel
theorem dX12_boardLine_42 : decode cX12_boardLine 42 = .ok (.ifCond .ne 20, 3) := by decide +kernel
theorem dX12_boardLine_45 : decode cX12_boardLine 45 = .ok (.aload_n 0, 1) := by decide +kernel
theorem dX12_boardLine_46 : decode cX12_boardLine 46 = .ok (.getfield 35, 3) := by decide +kernel
theorem dX12_boardLine_49 : decode cX12_boardLine 49 = .ok (.iconst 2, 1) := by decide +kernel
theorem dX12_boardLine_50 : decode cX12_boardLine 50 = .ok (.iaload, 1) := by decide +kernel
theorem dX12_boardLine_51 : decode cX12_boardLine 51 = .ok (.bipush 6, 2) := by decide +kernel
theorem dX12_boardLine_53 : decode cX12_boardLine 53 = .ok (.if_icmp .ne 9, 3) := by decide +kernel
theorem dX12_boardLine_56 : decode cX12_boardLine 56 = .ok (.aload_n 0, 1) := by decide +kernel
theorem dX12_boardLine_57 : decode cX12_boardLine 57 = .ok (.iconst 3, 1) := by decide +kernel
theorem dX12_boardLine_58 : decode cX12_boardLine 58 = .ok (.iload_n 3, 1) := by decide +kernel
theorem dX12_boardLine_59 : decode cX12_boardLine 59 = .ok (.invokevirtual 212, 3) := by decide +kernel
theorem dX12_boardLine_62 : decode cX12_boardLine 62 = .ok (.aload_n 0, 1) := by decide +kernel
theorem dX12_boardLine_63 : decode cX12_boardLine 63 = .ok (.invokevirtual 216, 3) := by decide +kernel
theorem dX12_boardLine_66 : decode cX12_boardLine 66 = .ok (.lload_n 1, 1) := by decide +kernel
theorem dX12_boardLine_67 : decode cX12_boardLine 67 = .ok (.ldc2_w 230, 3) := by decide +kernel
theorem dX12_boardLine_70 : decode cX12_boardLine 70 = .ok (.lcmp, 1) := by decide +kernel
theorem dX12_boardLine_71 : decode cX12_boardLine 71 = .ok (.ifCond .ne 43, 3) := by decide +kernel
theorem dX12_boardLine_74 : decode cX12_boardLine 74 = .ok (.iconst 0, 1) := by decide +kernel
theorem dX12_boardLine_75 : decode cX12_boardLine 75 = .ok (.istore 4, 2) := by decide +kernel
theorem dX12_boardLine_77 : decode cX12_boardLine 77 = .ok (.iload 4, 2) := by decide +kernel
theorem dX12_boardLine_79 : decode cX12_boardLine 79 = .ok (.iconst 2, 1) := by decide +kernel
theorem dX12_boardLine_80 : decode cX12_boardLine 80 = .ok (.if_icmp .ge 32, 3) := by decide +kernel
theorem dX12_boardLine_83 : decode cX12_boardLine 83 = .ok (.aload_n 0, 1) := by decide +kernel
theorem dX12_boardLine_84 : decode cX12_boardLine 84 = .ok (.iconst 2, 1) := by decide +kernel
theorem dX12_boardLine_85 : decode cX12_boardLine 85 = .ok (.bipush 6, 2) := by decide +kernel
theorem dX12_boardLine_87 : decode cX12_boardLine 87 = .ok (.invokevirtual 219, 3) := by decide +kernel
theorem dX12_boardLine_90 : decode cX12_boardLine 90 = .ok (.ifCond .ne 5, 3) := by decide +kernel
theorem dX12_boardLine_93 : decode cX12_boardLine 93 = .ok (.iconst 0, 1) := by decide +kernel
theorem dX12_boardLine_94 : decode cX12_boardLine 94 = .ok (.ireturn, 1) := by decide +kernel
theorem dX12_boardLine_95 : decode cX12_boardLine 95 = .ok (.aload_n 0, 1) := by decide +kernel
theorem dX12_boardLine_96 : decode cX12_boardLine 96 = .ok (.getfield 35, 3) := by decide +kernel
theorem dX12_boardLine_99 : decode cX12_boardLine 99 = .ok (.iload 4, 2) := by decide +kernel
theorem dX12_boardLine_101 : decode cX12_boardLine 101 = .ok (.aload_n 0, 1) := by decide +kernel
theorem dX12_boardLine_102 : decode cX12_boardLine 102 = .ok (.getfield 209, 3) := by decide +kernel
theorem dX12_boardLine_105 : decode cX12_boardLine 105 = .ok (.iastore, 1) := by decide +kernel
theorem dX12_boardLine_106 : decode cX12_boardLine 106 = .ok (.iinc 4 1, 3) := by decide +kernel
theorem dX12_boardLine_109 : decode cX12_boardLine 109 = .ok (.goto (-32), 3) := by decide +kernel
theorem dX12_boardLine_112 : decode cX12_boardLine 112 = .ok (.iconst 1, 1) := by decide +kernel
theorem dX12_boardLine_113 : decode cX12_boardLine 113 = .ok (.ireturn, 1) := by decide +kernel
theorem dX12_boardLine_114 : decode cX12_boardLine 114 = .ok (.lload_n 1, 1) := by decide +kernel
theorem dX12_boardLine_115 : decode cX12_boardLine 115 = .ok (.ldc2_w 236, 3) := by decide +kernel
theorem dX12_boardLine_118 : decode cX12_boardLine 118 = .ok (.lcmp, 1) := by decide +kernel
theorem dX12_boardLine_119 : decode cX12_boardLine 119 = .ok (.ifCond .ne 90, 3) := by decide +kernel
theorem dX12_boardLine_122 : decode cX12_boardLine 122 = .ok (.aload_n 0, 1) := by decide +kernel
theorem dX12_boardLine_123 : decode cX12_boardLine 123 = .ok (.iconst 0, 1) := by decide +kernel
theorem dX12_boardLine_124 : decode cX12_boardLine 124 = .ok (.iconst 1, 1) := by decide +kernel
theorem dX12_boardLine_125 : decode cX12_boardLine 125 = .ok (.invokevirtual 219, 3) := by decide +kernel
theorem dX12_boardLine_128 : decode cX12_boardLine 128 = .ok (.ifCond .ne 5, 3) := by decide +kernel
theorem dX12_boardLine_131 : decode cX12_boardLine 131 = .ok (.iconst 0, 1) := by decide +kernel
theorem dX12_boardLine_132 : decode cX12_boardLine 132 = .ok (.ireturn, 1) := by decide +kernel
theorem dX12_boardLine_133 : decode cX12_boardLine 133 = .ok (.aload_n 0, 1) := by decide +kernel
theorem dX12_boardLine_134 : decode cX12_boardLine 134 = .ok (.getfield 209, 3) := by decide +kernel
theorem dX12_boardLine_137 : decode cX12_boardLine 137 = .ok (.istore 4, 2) := by decide +kernel
theorem dX12_boardLine_139 : decode cX12_boardLine 139 = .ok (.aload_n 0, 1) := by decide +kernel
theorem dX12_boardLine_140 : decode cX12_boardLine 140 = .ok (.invokevirtual 238, 3) := by decide +kernel
theorem dX12_boardLine_143 : decode cX12_boardLine 143 = .ok (.ifCond .ne 5, 3) := by decide +kernel
theorem dX12_boardLine_146 : decode cX12_boardLine 146 = .ok (.iconst 0, 1) := by decide +kernel
theorem dX12_boardLine_147 : decode cX12_boardLine 147 = .ok (.ireturn, 1) := by decide +kernel
theorem dX12_boardLine_148 : decode cX12_boardLine 148 = .ok (.aload_n 0, 1) := by decide +kernel
theorem dX12_boardLine_149 : decode cX12_boardLine 149 = .ok (.getfield 35, 3) := by decide +kernel
theorem dX12_boardLine_152 : decode cX12_boardLine 152 = .ok (.iconst 2, 1) := by decide +kernel
theorem dX12_boardLine_153 : decode cX12_boardLine 153 = .ok (.iaload, 1) := by decide +kernel
theorem dX12_boardLine_154 : decode cX12_boardLine 154 = .ok (.bipush 6, 2) := by decide +kernel
theorem dX12_boardLine_156 : decode cX12_boardLine 156 = .ok (.if_icmp .ge 51, 3) := by decide +kernel
theorem dX12_boardLine_159 : decode cX12_boardLine 159 = .ok (.aload_n 0, 1) := by decide +kernel
theorem dX12_boardLine_160 : decode cX12_boardLine 160 = .ok (.getfield 35, 3) := by decide +kernel
theorem dX12_boardLine_163 : decode cX12_boardLine 163 = .ok (.iconst 3, 1) := by decide +kernel
theorem dX12_boardLine_164 : decode cX12_boardLine 164 = .ok (.iconst 2, 1) := by decide +kernel
theorem dX12_boardLine_165 : decode cX12_boardLine 165 = .ok (.aload_n 0, 1) := by decide +kernel
theorem dX12_boardLine_166 : decode cX12_boardLine 166 = .ok (.getfield 35, 3) := by decide +kernel
theorem dX12_boardLine_169 : decode cX12_boardLine 169 = .ok (.iconst 2, 1) := by decide +kernel
theorem dX12_boardLine_170 : decode cX12_boardLine 170 = .ok (.iaload, 1) := by decide +kernel
theorem dX12_boardLine_171 : decode cX12_boardLine 171 = .ok (.imul, 1) := by decide +kernel
theorem dX12_boardLine_172 : decode cX12_boardLine 172 = .ok (.iadd, 1) := by decide +kernel
theorem dX12_boardLine_173 : decode cX12_boardLine 173 = .ok (.iload 4, 2) := by decide +kernel
theorem dX12_boardLine_175 : decode cX12_boardLine 175 = .ok (.iastore, 1) := by decide +kernel
theorem dX12_boardLine_176 : decode cX12_boardLine 176 = .ok (.aload_n 0, 1) := by decide +kernel
theorem dX12_boardLine_177 : decode cX12_boardLine 177 = .ok (.getfield 35, 3) := by decide +kernel
theorem dX12_boardLine_180 : decode cX12_boardLine 180 = .ok (.iconst 3, 1) := by decide +kernel
theorem dX12_boardLine_181 : decode cX12_boardLine 181 = .ok (.iconst 2, 1) := by decide +kernel
theorem dX12_boardLine_182 : decode cX12_boardLine 182 = .ok (.aload_n 0, 1) := by decide +kernel
theorem dX12_boardLine_183 : decode cX12_boardLine 183 = .ok (.getfield 35, 3) := by decide +kernel
theorem dX12_boardLine_186 : decode cX12_boardLine 186 = .ok (.iconst 2, 1) := by decide +kernel
theorem dX12_boardLine_187 : decode cX12_boardLine 187 = .ok (.iaload, 1) := by decide +kernel
theorem dX12_boardLine_188 : decode cX12_boardLine 188 = .ok (.imul, 1) := by decide +kernel
theorem dX12_boardLine_189 : decode cX12_boardLine 189 = .ok (.iadd, 1) := by decide +kernel
theorem dX12_boardLine_190 : decode cX12_boardLine 190 = .ok (.iconst 1, 1) := by decide +kernel
theorem dX12_boardLine_191 : decode cX12_boardLine 191 = .ok (.iadd, 1) := by decide +kernel
theorem dX12_boardLine_192 : decode cX12_boardLine 192 = .ok (.aload_n 0, 1) := by decide +kernel
theorem dX12_boardLine_193 : decode cX12_boardLine 193 = .ok (.getfield 209, 3) := by decide +kernel
theorem dX12_boardLine_196 : decode cX12_boardLine 196 = .ok (.iastore, 1) := by decide +kernel
theorem dX12_boardLine_197 : decode cX12_boardLine 197 = .ok (.aload_n 0, 1) := by decide +kernel
theorem dX12_boardLine_198 : decode cX12_boardLine 198 = .ok (.getfield 35, 3) := by decide +kernel
theorem dX12_boardLine_201 : decode cX12_boardLine 201 = .ok (.iconst 2, 1) := by decide +kernel
theorem dX12_boardLine_202 : decode cX12_boardLine 202 = .ok (.dup2, 1) := by decide +kernel
theorem dX12_boardLine_203 : decode cX12_boardLine 203 = .ok (.iaload, 1) := by decide +kernel
theorem dX12_boardLine_204 : decode cX12_boardLine 204 = .ok (.iconst 1, 1) := by decide +kernel
theorem dX12_boardLine_205 : decode cX12_boardLine 205 = .ok (.iadd, 1) := by decide +kernel
theorem dX12_boardLine_206 : decode cX12_boardLine 206 = .ok (.iastore, 1) := by decide +kernel
theorem dX12_boardLine_207 : decode cX12_boardLine 207 = .ok (.iconst 1, 1) := by decide +kernel
theorem dX12_boardLine_208 : decode cX12_boardLine 208 = .ok (.ireturn, 1) := by decide +kernel
theorem dX12_boardLine_209 : decode cX12_boardLine 209 = .ok (.aload_n 0, 1) := by decide +kernel
theorem dX12_boardLine_210 : decode cX12_boardLine 210 = .ok (.invokevirtual 238, 3) := by decide +kernel
theorem dX12_boardLine_213 : decode cX12_boardLine 213 = .ok (.ifCond .ne 5, 3) := by decide +kernel
theorem dX12_boardLine_216 : decode cX12_boardLine 216 = .ok (.iconst 0, 1) := by decide +kernel
theorem dX12_boardLine_217 : decode cX12_boardLine 217 = .ok (.ireturn, 1) := by decide +kernel
theorem dX12_boardLine_218 : decode cX12_boardLine 218 = .ok (.aload_n 0, 1) := by decide +kernel
theorem dX12_boardLine_219 : decode cX12_boardLine 219 = .ok (.getfield 209, 3) := by decide +kernel
theorem dX12_boardLine_222 : decode cX12_boardLine 222 = .ok (.bipush 36, 2) := by decide +kernel
theorem dX12_boardLine_224 : decode cX12_boardLine 224 = .ok (.if_icmp .ge 10, 3) := by decide +kernel
theorem dX12_boardLine_227 : decode cX12_boardLine 227 = .ok (.aload_n 0, 1) := by decide +kernel
theorem dX12_boardLine_228 : decode cX12_boardLine 228 = .ok (.getfield 209, 3) := by decide +kernel
theorem dX12_boardLine_231 : decode cX12_boardLine 231 = .ok (.goto 4, 3) := by decide +kernel
theorem dX12_boardLine_234 : decode cX12_boardLine 234 = .ok (.iconst 0, 1) := by decide +kernel
theorem dX12_boardLine_235 : decode cX12_boardLine 235 = .ok (.istore 4, 2) := by decide +kernel
theorem dX12_boardLine_237 : decode cX12_boardLine 237 = .ok (.aload_n 0, 1) := by decide +kernel
theorem dX12_boardLine_238 : decode cX12_boardLine 238 = .ok (.getfield 35, 3) := by decide +kernel
theorem dX12_boardLine_241 : decode cX12_boardLine 241 = .ok (.bipush 15, 2) := by decide +kernel
theorem dX12_boardLine_243 : decode cX12_boardLine 243 = .ok (.iload 4, 2) := by decide +kernel
theorem dX12_boardLine_245 : decode cX12_boardLine 245 = .ok (.iadd, 1) := by decide +kernel
theorem dX12_boardLine_246 : decode cX12_boardLine 246 = .ok (.lload_n 1, 1) := by decide +kernel
theorem dX12_boardLine_247 : decode cX12_boardLine 247 = .ok (.ldc2_w 232, 3) := by decide +kernel
theorem dX12_boardLine_250 : decode cX12_boardLine 250 = .ok (.lcmp, 1) := by decide +kernel
theorem dX12_boardLine_251 : decode cX12_boardLine 251 = .ok (.ifCond .ne 7, 3) := by decide +kernel
theorem dX12_boardLine_254 : decode cX12_boardLine 254 = .ok (.iconst 1, 1) := by decide +kernel
theorem dX12_boardLine_255 : decode cX12_boardLine 255 = .ok (.goto 22, 3) := by decide +kernel
theorem dX12_boardLine_258 : decode cX12_boardLine 258 = .ok (.aload_n 0, 1) := by decide +kernel
theorem dX12_boardLine_259 : decode cX12_boardLine 259 = .ok (.getfield 35, 3) := by decide +kernel
theorem dX12_boardLine_262 : decode cX12_boardLine 262 = .ok (.bipush 15, 2) := by decide +kernel
theorem dX12_boardLine_264 : decode cX12_boardLine 264 = .ok (.iload 4, 2) := by decide +kernel
theorem dX12_boardLine_266 : decode cX12_boardLine 266 = .ok (.iadd, 1) := by decide +kernel
theorem dX12_boardLine_267 : decode cX12_boardLine 267 = .ok (.iaload, 1) := by decide +kernel
theorem dX12_boardLine_268 : decode cX12_boardLine 268 = .ok (.iconst 1, 1) := by decide +kernel
theorem dX12_boardLine_269 : decode cX12_boardLine 269 = .ok (.if_icmp .ne 7, 3) := by decide +kernel
theorem dX12_boardLine_272 : decode cX12_boardLine 272 = .ok (.iconst 1, 1) := by decide +kernel
theorem dX12_boardLine_273 : decode cX12_boardLine 273 = .ok (.goto 4, 3) := by decide +kernel
theorem dX12_boardLine_276 : decode cX12_boardLine 276 = .ok (.iconst 2, 1) := by decide +kernel
theorem dX12_boardLine_277 : decode cX12_boardLine 277 = .ok (.iastore, 1) := by decide +kernel
theorem dX12_boardLine_278 : decode cX12_boardLine 278 = .ok (.aload_n 0, 1) := by decide +kernel
theorem dX12_boardLine_279 : decode cX12_boardLine 279 = .ok (.getfield 190, 3) := by decide +kernel
theorem dX12_boardLine_282 : decode cX12_boardLine 282 = .ok (.iconst 3, 1) := by decide +kernel
theorem dX12_boardLine_283 : decode cX12_boardLine 283 = .ok (.if_icmp .eq (-74), 3) := by decide +kernel
theorem dX12_boardLine_286 : decode cX12_boardLine 286 = .ok (.iconst 1, 1) := by decide +kernel
theorem dX12_boardLine_287 : decode cX12_boardLine 287 = .ok (.ireturn, 1) := by decide +kernel
theorem dX12_gameLine_0 : decode cX12_gameLine 0 = .ok (.lload_n 1, 1) := by decide +kernel
theorem dX12_gameLine_1 : decode cX12_gameLine 1 = .ok (.ldc2_w 241, 3) := by decide +kernel
theorem dX12_gameLine_4 : decode cX12_gameLine 4 = .ok (.lcmp, 1) := by decide +kernel
theorem dX12_gameLine_5 : decode cX12_gameLine 5 = .ok (.ifCond .eq 8, 3) := by decide +kernel
theorem dX12_gameLine_8 : decode cX12_gameLine 8 = .ok (.aload_n 0, 1) := by decide +kernel
theorem dX12_gameLine_9 : decode cX12_gameLine 9 = .ok (.invokevirtual 205, 3) := by decide +kernel
theorem dX12_gameLine_12 : decode cX12_gameLine 12 = .ok (.ireturn, 1) := by decide +kernel
theorem dX12_gameLine_13 : decode cX12_gameLine 13 = .ok (.aload_n 0, 1) := by decide +kernel
theorem dX12_gameLine_14 : decode cX12_gameLine 14 = .ok (.getfield 35, 3) := by decide +kernel
theorem dX12_gameLine_17 : decode cX12_gameLine 17 = .ok (.iconst 0, 1) := by decide +kernel
theorem dX12_gameLine_18 : decode cX12_gameLine 18 = .ok (.iaload, 1) := by decide +kernel
theorem dX12_gameLine_19 : decode cX12_gameLine 19 = .ok (.bipush 30, 2) := by decide +kernel
theorem dX12_gameLine_21 : decode cX12_gameLine 21 = .ok (.if_icmp .ne 9, 3) := by decide +kernel
theorem dX12_gameLine_24 : decode cX12_gameLine 24 = .ok (.aload_n 0, 1) := by decide +kernel
theorem dX12_gameLine_25 : decode cX12_gameLine 25 = .ok (.iconst 3, 1) := by decide +kernel
theorem dX12_gameLine_26 : decode cX12_gameLine 26 = .ok (.iload_n 3, 1) := by decide +kernel
theorem dX12_gameLine_27 : decode cX12_gameLine 27 = .ok (.invokevirtual 212, 3) := by decide +kernel
theorem dX12_gameLine_30 : decode cX12_gameLine 30 = .ok (.aload_n 0, 1) := by decide +kernel
theorem dX12_gameLine_31 : decode cX12_gameLine 31 = .ok (.invokevirtual 216, 3) := by decide +kernel
theorem dX12_gameLine_34 : decode cX12_gameLine 34 = .ok (.aload_n 0, 1) := by decide +kernel
theorem dX12_gameLine_35 : decode cX12_gameLine 35 = .ok (.invokevirtual 243, 3) := by decide +kernel
theorem dX12_gameLine_38 : decode cX12_gameLine 38 = .ok (.ifCond .ne 5, 3) := by decide +kernel
theorem dX12_gameLine_41 : decode cX12_gameLine 41 = .ok (.iconst 0, 1) := by decide +kernel
theorem dX12_gameLine_42 : decode cX12_gameLine 42 = .ok (.ireturn, 1) := by decide +kernel
theorem dX12_gameLine_43 : decode cX12_gameLine 43 = .ok (.aload_n 0, 1) := by decide +kernel
theorem dX12_gameLine_44 : decode cX12_gameLine 44 = .ok (.iconst (-1), 1) := by decide +kernel
theorem dX12_gameLine_45 : decode cX12_gameLine 45 = .ok (.putfield 209, 3) := by decide +kernel
theorem dX12_gameLine_48 : decode cX12_gameLine 48 = .ok (.aload_n 0, 1) := by decide +kernel
theorem dX12_gameLine_49 : decode cX12_gameLine 49 = .ok (.getfield 190, 3) := by decide +kernel
theorem dX12_gameLine_52 : decode cX12_gameLine 52 = .ok (.iconst 2, 1) := by decide +kernel
theorem dX12_gameLine_53 : decode cX12_gameLine 53 = .ok (.if_icmp .ne 30, 3) := by decide +kernel
theorem dX12_gameLine_56 : decode cX12_gameLine 56 = .ok (.aload_n 0, 1) := by decide +kernel
theorem dX12_gameLine_57 : decode cX12_gameLine 57 = .ok (.getfield 186, 3) := by decide +kernel
theorem dX12_gameLine_60 : decode cX12_gameLine 60 = .ok (.ldc2_w 246, 3) := by decide +kernel
theorem dX12_gameLine_63 : decode cX12_gameLine 63 = .ok (.lcmp, 1) := by decide +kernel
theorem dX12_gameLine_64 : decode cX12_gameLine 64 = .ok (.ifCond .ne 19, 3) := by decide +kernel
theorem dX12_gameLine_67 : decode cX12_gameLine 67 = .ok (.aload_n 0, 1) := by decide +kernel
theorem dX12_gameLine_68 : decode cX12_gameLine 68 = .ok (.invokevirtual 216, 3) := by decide +kernel
theorem dX12_gameLine_71 : decode cX12_gameLine 71 = .ok (.aload_n 0, 1) := by decide +kernel
theorem dX12_gameLine_72 : decode cX12_gameLine 72 = .ok (.iconst 0, 1) := by decide +kernel
theorem dX12_gameLine_73 : decode cX12_gameLine 73 = .ok (.bipush 35, 2) := by decide +kernel
theorem dX12_gameLine_75 : decode cX12_gameLine 75 = .ok (.invokevirtual 219, 3) := by decide +kernel
theorem dX12_gameLine_78 : decode cX12_gameLine 78 = .ok (.ifCond .ne 5, 3) := by decide +kernel
theorem dX12_gameLine_81 : decode cX12_gameLine 81 = .ok (.iconst 0, 1) := by decide +kernel
theorem dX12_gameLine_82 : decode cX12_gameLine 82 = .ok (.ireturn, 1) := by decide +kernel
theorem dX12_gameLine_83 : decode cX12_gameLine 83 = .ok (.aload_n 0, 1) := by decide +kernel
theorem dX12_gameLine_84 : decode cX12_gameLine 84 = .ok (.getfield 35, 3) := by decide +kernel
theorem dX12_gameLine_87 : decode cX12_gameLine 87 = .ok (.iconst 0, 1) := by decide +kernel
theorem dX12_gameLine_88 : decode cX12_gameLine 88 = .ok (.iaload, 1) := by decide +kernel
theorem dX12_gameLine_89 : decode cX12_gameLine 89 = .ok (.bipush 30, 2) := by decide +kernel
theorem dX12_gameLine_91 : decode cX12_gameLine 91 = .ok (.if_icmp .ge 72, 3) := by decide +kernel
theorem dX12_gameLine_94 : decode cX12_gameLine 94 = .ok (.iconst 1, 1) := by decide +kernel
theorem dX12_gameLine_95 : decode cX12_gameLine 95 = .ok (.bipush 11, 2) := by decide +kernel
theorem dX12_gameLine_97 : decode cX12_gameLine 97 = .ok (.aload_n 0, 1) := by decide +kernel
theorem dX12_gameLine_98 : decode cX12_gameLine 98 = .ok (.getfield 35, 3) := by decide +kernel
theorem dX12_gameLine_101 : decode cX12_gameLine 101 = .ok (.iconst 0, 1) := by decide +kernel
theorem dX12_gameLine_102 : decode cX12_gameLine 102 = .ok (.iaload, 1) := by decide +kernel
theorem dX12_gameLine_103 : decode cX12_gameLine 103 = .ok (.imul, 1) := by decide +kernel
theorem dX12_gameLine_104 : decode cX12_gameLine 104 = .ok (.iadd, 1) := by decide +kernel
theorem dX12_gameLine_105 : decode cX12_gameLine 105 = .ok (.istore 4, 2) := by decide +kernel
theorem dX12_gameLine_107 : decode cX12_gameLine 107 = .ok (.aload_n 0, 1) := by decide +kernel
theorem dX12_gameLine_108 : decode cX12_gameLine 108 = .ok (.getfield 35, 3) := by decide +kernel
theorem dX12_gameLine_111 : decode cX12_gameLine 111 = .ok (.iload 4, 2) := by decide +kernel
theorem dX12_gameLine_113 : decode cX12_gameLine 113 = .ok (.aload_n 0, 1) := by decide +kernel
theorem dX12_gameLine_114 : decode cX12_gameLine 114 = .ok (.getfield 209, 3) := by decide +kernel
theorem dX12_gameLine_117 : decode cX12_gameLine 117 = .ok (.iastore, 1) := by decide +kernel
theorem dX12_gameLine_118 : decode cX12_gameLine 118 = .ok (.iconst 0, 1) := by decide +kernel
theorem dX12_gameLine_119 : decode cX12_gameLine 119 = .ok (.istore 5, 2) := by decide +kernel
theorem dX12_gameLine_121 : decode cX12_gameLine 121 = .ok (.iload 5, 2) := by decide +kernel
theorem dX12_gameLine_123 : decode cX12_gameLine 123 = .ok (.bipush 10, 2) := by decide +kernel
theorem dX12_gameLine_125 : decode cX12_gameLine 125 = .ok (.if_icmp .ge 28, 3) := by decide +kernel
theorem dX12_gameLine_128 : decode cX12_gameLine 128 = .ok (.aload_n 0, 1) := by decide +kernel
theorem dX12_gameLine_129 : decode cX12_gameLine 129 = .ok (.getfield 35, 3) := by decide +kernel
theorem dX12_gameLine_132 : decode cX12_gameLine 132 = .ok (.iload 4, 2) := by decide +kernel
theorem dX12_gameLine_134 : decode cX12_gameLine 134 = .ok (.iconst 1, 1) := by decide +kernel
theorem dX12_gameLine_135 : decode cX12_gameLine 135 = .ok (.iadd, 1) := by decide +kernel
theorem dX12_gameLine_136 : decode cX12_gameLine 136 = .ok (.iload 5, 2) := by decide +kernel
theorem dX12_gameLine_138 : decode cX12_gameLine 138 = .ok (.iadd, 1) := by decide +kernel
theorem dX12_gameLine_139 : decode cX12_gameLine 139 = .ok (.aload_n 0, 1) := by decide +kernel
theorem dX12_gameLine_140 : decode cX12_gameLine 140 = .ok (.getfield 38, 3) := by decide +kernel
theorem dX12_gameLine_143 : decode cX12_gameLine 143 = .ok (.iload 5, 2) := by decide +kernel
theorem dX12_gameLine_145 : decode cX12_gameLine 145 = .ok (.iaload, 1) := by decide +kernel
theorem dX12_gameLine_146 : decode cX12_gameLine 146 = .ok (.iastore, 1) := by decide +kernel
theorem dX12_gameLine_147 : decode cX12_gameLine 147 = .ok (.iinc 5 1, 3) := by decide +kernel
theorem dX12_gameLine_150 : decode cX12_gameLine 150 = .ok (.goto (-29), 3) := by decide +kernel
theorem dX12_gameLine_153 : decode cX12_gameLine 153 = .ok (.aload_n 0, 1) := by decide +kernel
theorem dX12_gameLine_154 : decode cX12_gameLine 154 = .ok (.getfield 35, 3) := by decide +kernel
theorem dX12_gameLine_157 : decode cX12_gameLine 157 = .ok (.iconst 0, 1) := by decide +kernel
theorem dX12_gameLine_158 : decode cX12_gameLine 158 = .ok (.dup2, 1) := by decide +kernel
theorem dX12_gameLine_159 : decode cX12_gameLine 159 = .ok (.iaload, 1) := by decide +kernel
theorem dX12_gameLine_160 : decode cX12_gameLine 160 = .ok (.iconst 1, 1) := by decide +kernel
theorem dX12_gameLine_161 : decode cX12_gameLine 161 = .ok (.iadd, 1) := by decide +kernel
theorem dX12_gameLine_162 : decode cX12_gameLine 162 = .ok (.iastore, 1) := by decide +kernel
theorem dX12_gameLine_163 : decode cX12_gameLine 163 = .ok (.iconst 1, 1) := by decide +kernel
theorem dX12_gameLine_164 : decode cX12_gameLine 164 = .ok (.ireturn, 1) := by decide +kernel
theorem dX12_lines_0 : decode cX12_lines 0 = .ok (.iconst 1, 1) := by decide +kernel
theorem dX12_lines_1 : decode cX12_lines 1 = .ok (.istore_n 2, 1) := by decide +kernel
theorem dX12_lines_2 : decode cX12_lines 2 = .ok (.iload_n 2, 1) := by decide +kernel
theorem dX12_lines_3 : decode cX12_lines 3 = .ok (.ifCond .eq 83, 3) := by decide +kernel
theorem dX12_lines_6 : decode cX12_lines 6 = .ok (.aload_n 0, 1) := by decide +kernel
theorem dX12_lines_7 : decode cX12_lines 7 = .ok (.getfield 190, 3) := by decide +kernel
theorem dX12_lines_10 : decode cX12_lines 10 = .ok (.ifCond .eq 76, 3) := by decide +kernel
theorem dX12_lines_13 : decode cX12_lines 13 = .ok (.aload_n 0, 1) := by decide +kernel
theorem dX12_lines_14 : decode cX12_lines 14 = .ok (.getfield 183, 3) := by decide +kernel
theorem dX12_lines_17 : decode cX12_lines 17 = .ok (.istore_n 3, 1) := by decide +kernel
theorem dX12_lines_18 : decode cX12_lines 18 = .ok (.aload_n 0, 1) := by decide +kernel
theorem dX12_lines_19 : decode cX12_lines 19 = .ok (.getfield 190, 3) := by decide +kernel
theorem dX12_lines_22 : decode cX12_lines 22 = .ok (.iconst 2, 1) := by decide +kernel
theorem dX12_lines_23 : decode cX12_lines 23 = .ok (.if_icmp .ne 10, 3) := by decide +kernel
theorem dX12_lines_26 : decode cX12_lines 26 = .ok (.aload_n 0, 1) := by decide +kernel
theorem dX12_lines_27 : decode cX12_lines 27 = .ok (.getfield 186, 3) := by decide +kernel
theorem dX12_lines_30 : decode cX12_lines 30 = .ok (.goto 4, 3) := by decide +kernel
theorem dX12_lines_33 : decode cX12_lines 33 = .ok (.lconst 0, 1) := by decide +kernel
theorem dX12_lines_34 : decode cX12_lines 34 = .ok (.lstore 4, 2) := by decide +kernel
theorem dX12_lines_36 : decode cX12_lines 36 = .ok (.iload_n 1, 1) := by decide +kernel
theorem dX12_lines_37 : decode cX12_lines 37 = .ok (.ifCond .ne 13, 3) := by decide +kernel
theorem dX12_lines_40 : decode cX12_lines 40 = .ok (.aload_n 0, 1) := by decide +kernel
theorem dX12_lines_41 : decode cX12_lines 41 = .ok (.lload 4, 2) := by decide +kernel
theorem dX12_lines_43 : decode cX12_lines 43 = .ok (.iload_n 3, 1) := by decide +kernel
theorem dX12_lines_44 : decode cX12_lines 44 = .ok (.invokevirtual 248, 3) := by decide +kernel
theorem dX12_lines_47 : decode cX12_lines 47 = .ok (.goto 10, 3) := by decide +kernel
theorem dX12_lines_50 : decode cX12_lines 50 = .ok (.aload_n 0, 1) := by decide +kernel
theorem dX12_lines_51 : decode cX12_lines 51 = .ok (.lload 4, 2) := by decide +kernel
theorem dX12_lines_53 : decode cX12_lines 53 = .ok (.iload_n 3, 1) := by decide +kernel
theorem dX12_lines_54 : decode cX12_lines 54 = .ok (.invokevirtual 252, 3) := by decide +kernel
theorem dX12_lines_57 : decode cX12_lines 57 = .ok (.istore_n 2, 1) := by decide +kernel
theorem dX12_lines_58 : decode cX12_lines 58 = .ok (.iload_n 2, 1) := by decide +kernel
theorem dX12_lines_59 : decode cX12_lines 59 = .ok (.ifCond .eq 16, 3) := by decide +kernel
theorem dX12_lines_62 : decode cX12_lines 62 = .ok (.aload_n 0, 1) := by decide +kernel
theorem dX12_lines_63 : decode cX12_lines 63 = .ok (.getfield 190, 3) := by decide +kernel
theorem dX12_lines_66 : decode cX12_lines 66 = .ok (.iconst 4, 1) := by decide +kernel
theorem dX12_lines_67 : decode cX12_lines 67 = .ok (.if_icmp .eq 8, 3) := by decide +kernel
theorem dX12_lines_70 : decode cX12_lines 70 = .ok (.aload_n 0, 1) := by decide +kernel
theorem dX12_lines_71 : decode cX12_lines 71 = .ok (.invokevirtual 205, 3) := by decide +kernel
theorem dX12_lines_74 : decode cX12_lines 74 = .ok (.istore_n 2, 1) := by decide +kernel
theorem dX12_lines_75 : decode cX12_lines 75 = .ok (.iload_n 2, 1) := by decide +kernel
theorem dX12_lines_76 : decode cX12_lines 76 = .ok (.ifCond .eq 7, 3) := by decide +kernel
theorem dX12_lines_79 : decode cX12_lines 79 = .ok (.aload_n 0, 1) := by decide +kernel
theorem dX12_lines_80 : decode cX12_lines 80 = .ok (.invokevirtual 216, 3) := by decide +kernel
theorem dX12_lines_83 : decode cX12_lines 83 = .ok (.goto (-81), 3) := by decide +kernel
theorem dX12_lines_86 : decode cX12_lines 86 = .ok (.iload_n 2, 1) := by decide +kernel
theorem dX12_lines_87 : decode cX12_lines 87 = .ok (.ireturn, 1) := by decide +kernel
theorem dX12_isWrongBoard_0 : decode cX12_isWrongBoard 0 = .ok (.aload_n 0, 1) := by decide +kernel
theorem dX12_isWrongBoard_1 : decode cX12_isWrongBoard 1 = .ok (.getfield 223, 3) := by decide +kernel
theorem dX12_isWrongBoard_4 : decode cX12_isWrongBoard 4 = .ok (.aload_n 0, 1) := by decide +kernel
theorem dX12_isWrongBoard_5 : decode cX12_isWrongBoard 5 = .ok (.getfield 35, 3) := by decide +kernel
theorem dX12_isWrongBoard_8 : decode cX12_isWrongBoard 8 = .ok (.iconst 0, 1) := by decide +kernel
theorem dX12_isWrongBoard_9 : decode cX12_isWrongBoard 9 = .ok (.iaload, 1) := by decide +kernel
theorem dX12_isWrongBoard_10 : decode cX12_isWrongBoard 10 = .ok (.aload_n 0, 1) := by decide +kernel
theorem dX12_isWrongBoard_11 : decode cX12_isWrongBoard 11 = .ok (.getfield 35, 3) := by decide +kernel
theorem dX12_isWrongBoard_14 : decode cX12_isWrongBoard 14 = .ok (.iconst 1, 1) := by decide +kernel
theorem dX12_isWrongBoard_15 : decode cX12_isWrongBoard 15 = .ok (.iaload, 1) := by decide +kernel
theorem dX12_isWrongBoard_16 : decode cX12_isWrongBoard 16 = .ok (.imul, 1) := by decide +kernel
theorem dX12_isWrongBoard_17 : decode cX12_isWrongBoard 17 = .ok (.if_icmp .lt 5, 3) := by decide +kernel
theorem dX12_isWrongBoard_20 : decode cX12_isWrongBoard 20 = .ok (.iconst 1, 1) := by decide +kernel
theorem dX12_isWrongBoard_21 : decode cX12_isWrongBoard 21 = .ok (.ireturn, 1) := by decide +kernel
theorem dX12_isWrongBoard_22 : decode cX12_isWrongBoard 22 = .ok (.iconst 0, 1) := by decide +kernel
theorem dX12_isWrongBoard_23 : decode cX12_isWrongBoard 23 = .ok (.istore_n 1, 1) := by decide +kernel
theorem dX12_isWrongBoard_24 : decode cX12_isWrongBoard 24 = .ok (.iload_n 1, 1) := by decide +kernel
theorem dX12_isWrongBoard_25 : decode cX12_isWrongBoard 25 = .ok (.aload_n 0, 1) := by decide +kernel
theorem dX12_isWrongBoard_26 : decode cX12_isWrongBoard 26 = .ok (.getfield 35, 3) := by decide +kernel
theorem dX12_isWrongBoard_29 : decode cX12_isWrongBoard 29 = .ok (.iconst 2, 1) := by decide +kernel
theorem dX12_isWrongBoard_30 : decode cX12_isWrongBoard 30 = .ok (.iaload, 1) := by decide +kernel
theorem dX12_isWrongBoard_31 : decode cX12_isWrongBoard 31 = .ok (.if_icmp .ge 67, 3) := by decide +kernel
theorem dX12_isWrongBoard_34 : decode cX12_isWrongBoard 34 = .ok (.aload_n 0, 1) := by decide +kernel
theorem dX12_isWrongBoard_35 : decode cX12_isWrongBoard 35 = .ok (.getfield 35, 3) := by decide +kernel
theorem dX12_isWrongBoard_38 : decode cX12_isWrongBoard 38 = .ok (.iconst 3, 1) := by decide +kernel
theorem dX12_isWrongBoard_39 : decode cX12_isWrongBoard 39 = .ok (.iconst 2, 1) := by decide +kernel
theorem dX12_isWrongBoard_40 : decode cX12_isWrongBoard 40 = .ok (.iload_n 1, 1) := by decide +kernel
theorem dX12_isWrongBoard_41 : decode cX12_isWrongBoard 41 = .ok (.imul, 1) := by decide +kernel
theorem dX12_isWrongBoard_42 : decode cX12_isWrongBoard 42 = .ok (.iadd, 1) := by decide +kernel
theorem dX12_isWrongBoard_43 : decode cX12_isWrongBoard 43 = .ok (.iconst 1, 1) := by decide +kernel
theorem dX12_isWrongBoard_44 : decode cX12_isWrongBoard 44 = .ok (.iadd, 1) := by decide +kernel
theorem dX12_isWrongBoard_45 : decode cX12_isWrongBoard 45 = .ok (.iaload, 1) := by decide +kernel
theorem dX12_isWrongBoard_46 : decode cX12_isWrongBoard 46 = .ok (.istore_n 2, 1) := by decide +kernel
theorem dX12_isWrongBoard_47 : decode cX12_isWrongBoard 47 = .ok (.aload_n 0, 1) := by decide +kernel
theorem dX12_isWrongBoard_48 : decode cX12_isWrongBoard 48 = .ok (.getfield 35, 3) := by decide +kernel
theorem dX12_isWrongBoard_51 : decode cX12_isWrongBoard 51 = .ok (.bipush 15, 2) := by decide +kernel
theorem dX12_isWrongBoard_53 : decode cX12_isWrongBoard 53 = .ok (.iload_n 2, 1) := by decide +kernel
theorem dX12_isWrongBoard_54 : decode cX12_isWrongBoard 54 = .ok (.iadd, 1) := by decide +kernel
theorem dX12_isWrongBoard_55 : decode cX12_isWrongBoard 55 = .ok (.iaload, 1) := by decide +kernel
theorem dX12_isWrongBoard_56 : decode cX12_isWrongBoard 56 = .ok (.ifCond .eq 5, 3) := by decide +kernel
theorem dX12_isWrongBoard_59 : decode cX12_isWrongBoard 59 = .ok (.iconst 1, 1) := by decide +kernel
theorem dX12_isWrongBoard_60 : decode cX12_isWrongBoard 60 = .ok (.ireturn, 1) := by decide +kernel
theorem dX12_isWrongBoard_61 : decode cX12_isWrongBoard 61 = .ok (.iconst 0, 1) := by decide +kernel
theorem dX12_isWrongBoard_62 : decode cX12_isWrongBoard 62 = .ok (.istore_n 3, 1) := by decide +kernel
theorem dX12_isWrongBoard_63 : decode cX12_isWrongBoard 63 = .ok (.iload_n 3, 1) := by decide +kernel
theorem dX12_isWrongBoard_64 : decode cX12_isWrongBoard 64 = .ok (.iload_n 1, 1) := by decide +kernel
theorem dX12_isWrongBoard_65 : decode cX12_isWrongBoard 65 = .ok (.if_icmp .ge 27, 3) := by decide +kernel
theorem dX12_isWrongBoard_68 : decode cX12_isWrongBoard 68 = .ok (.aload_n 0, 1) := by decide +kernel
theorem dX12_isWrongBoard_69 : decode cX12_isWrongBoard 69 = .ok (.getfield 35, 3) := by decide +kernel
theorem dX12_isWrongBoard_72 : decode cX12_isWrongBoard 72 = .ok (.iconst 3, 1) := by decide +kernel
theorem dX12_isWrongBoard_73 : decode cX12_isWrongBoard 73 = .ok (.iconst 2, 1) := by decide +kernel
theorem dX12_isWrongBoard_74 : decode cX12_isWrongBoard 74 = .ok (.iload_n 3, 1) := by decide +kernel
theorem dX12_isWrongBoard_75 : decode cX12_isWrongBoard 75 = .ok (.imul, 1) := by decide +kernel
theorem dX12_isWrongBoard_76 : decode cX12_isWrongBoard 76 = .ok (.iadd, 1) := by decide +kernel
theorem dX12_isWrongBoard_77 : decode cX12_isWrongBoard 77 = .ok (.iconst 1, 1) := by decide +kernel
theorem dX12_isWrongBoard_78 : decode cX12_isWrongBoard 78 = .ok (.iadd, 1) := by decide +kernel
theorem dX12_isWrongBoard_79 : decode cX12_isWrongBoard 79 = .ok (.iaload, 1) := by decide +kernel
theorem dX12_isWrongBoard_80 : decode cX12_isWrongBoard 80 = .ok (.iload_n 2, 1) := by decide +kernel
theorem dX12_isWrongBoard_81 : decode cX12_isWrongBoard 81 = .ok (.if_icmp .ne 5, 3) := by decide +kernel
theorem dX12_isWrongBoard_84 : decode cX12_isWrongBoard 84 = .ok (.iconst 1, 1) := by decide +kernel
theorem dX12_isWrongBoard_85 : decode cX12_isWrongBoard 85 = .ok (.ireturn, 1) := by decide +kernel
theorem dX12_isWrongBoard_86 : decode cX12_isWrongBoard 86 = .ok (.iinc 3 1, 3) := by decide +kernel
theorem dX12_isWrongBoard_89 : decode cX12_isWrongBoard 89 = .ok (.goto (-26), 3) := by decide +kernel
theorem dX12_isWrongBoard_92 : decode cX12_isWrongBoard 92 = .ok (.iinc 1 1, 3) := by decide +kernel
theorem dX12_isWrongBoard_95 : decode cX12_isWrongBoard 95 = .ok (.goto (-71), 3) := by decide +kernel
theorem dX12_isWrongBoard_98 : decode cX12_isWrongBoard 98 = .ok (.iconst 0, 1) := by decide +kernel
theorem dX12_isWrongBoard_99 : decode cX12_isWrongBoard 99 = .ok (.ireturn, 1) := by decide +kernel
theorem dX12_ruleText_0 : decode cX12_ruleText 0 = .ok (.aload_n 0, 1) := by decide +kernel
theorem dX12_ruleText_1 : decode cX12_ruleText 1 = .ok (.invokevirtual 243, 3) := by decide +kernel
theorem dX12_ruleText_4 : decode cX12_ruleText 4 = .ok (.ifCond .ne 5, 3) := by decide +kernel
theorem dX12_ruleText_7 : decode cX12_ruleText 7 = .ok (.iconst 0, 1) := by decide +kernel
theorem dX12_ruleText_8 : decode cX12_ruleText 8 = .ok (.ireturn, 1) := by decide +kernel
theorem dX12_ruleText_9 : decode cX12_ruleText 9 = .ok (.iconst 0, 1) := by decide +kernel
theorem dX12_ruleText_10 : decode cX12_ruleText 10 = .ok (.istore_n 1, 1) := by decide +kernel
theorem dX12_ruleText_11 : decode cX12_ruleText 11 = .ok (.iload_n 1, 1) := by decide +kernel
theorem dX12_ruleText_12 : decode cX12_ruleText 12 = .ok (.bipush 10, 2) := by decide +kernel
theorem dX12_ruleText_14 : decode cX12_ruleText 14 = .ok (.if_icmp .ge 21, 3) := by decide +kernel
theorem dX12_ruleText_17 : decode cX12_ruleText 17 = .ok (.aload_n 0, 1) := by decide +kernel
theorem dX12_ruleText_18 : decode cX12_ruleText 18 = .ok (.getfield 35, 3) := by decide +kernel
theorem dX12_ruleText_21 : decode cX12_ruleText 21 = .ok (.iload_n 1, 1) := by decide +kernel
theorem dX12_ruleText_22 : decode cX12_ruleText 22 = .ok (.aload_n 0, 1) := by decide +kernel
theorem dX12_ruleText_23 : decode cX12_ruleText 23 = .ok (.getfield 38, 3) := by decide +kernel
theorem dX12_ruleText_26 : decode cX12_ruleText 26 = .ok (.iload_n 1, 1) := by decide +kernel
theorem dX12_ruleText_27 : decode cX12_ruleText 27 = .ok (.iaload, 1) := by decide +kernel
theorem dX12_ruleText_28 : decode cX12_ruleText 28 = .ok (.iastore, 1) := by decide +kernel
theorem dX12_ruleText_29 : decode cX12_ruleText 29 = .ok (.iinc 1 1, 3) := by decide +kernel
theorem dX12_ruleText_32 : decode cX12_ruleText 32 = .ok (.goto (-21), 3) := by decide +kernel
theorem dX12_ruleText_35 : decode cX12_ruleText 35 = .ok (.aload_n 0, 1) := by decide +kernel
theorem dX12_ruleText_36 : decode cX12_ruleText 36 = .ok (.getfield 190, 3) := by decide +kernel
theorem dX12_ruleText_39 : decode cX12_ruleText 39 = .ok (.ifCond .eq 10, 3) := by decide +kernel
theorem dX12_ruleText_42 : decode cX12_ruleText 42 = .ok (.aload_n 0, 1) := by decide +kernel
theorem dX12_ruleText_43 : decode cX12_ruleText 43 = .ok (.invokevirtual 205, 3) := by decide +kernel
theorem dX12_ruleText_46 : decode cX12_ruleText 46 = .ok (.ifCond .eq 7, 3) := by decide +kernel
theorem dX12_ruleText_49 : decode cX12_ruleText 49 = .ok (.iconst 1, 1) := by decide +kernel
theorem dX12_ruleText_50 : decode cX12_ruleText 50 = .ok (.goto 4, 3) := by decide +kernel
theorem dX12_ruleText_53 : decode cX12_ruleText 53 = .ok (.iconst 0, 1) := by decide +kernel
theorem dX12_ruleText_54 : decode cX12_ruleText 54 = .ok (.ireturn, 1) := by decide +kernel
theorem dX12_readText_0 : decode cX12_readText 0 = .ok (.iconst 0, 1) := by decide +kernel
theorem dX12_readText_1 : decode cX12_readText 1 = .ok (.istore_n 2, 1) := by decide +kernel
theorem dX12_readText_2 : decode cX12_readText 2 = .ok (.iload_n 2, 1) := by decide +kernel
theorem dX12_readText_3 : decode cX12_readText 3 = .ok (.sipush 331, 3) := by decide +kernel
theorem dX12_readText_6 : decode cX12_readText 6 = .ok (.if_icmp .ge 16, 3) := by decide +kernel
theorem dX12_readText_9 : decode cX12_readText 9 = .ok (.aload_n 0, 1) := by decide +kernel
theorem dX12_readText_10 : decode cX12_readText 10 = .ok (.getfield 35, 3) := by decide +kernel
theorem dX12_readText_13 : decode cX12_readText 13 = .ok (.iload_n 2, 1) := by decide +kernel
theorem dX12_readText_14 : decode cX12_readText 14 = .ok (.iconst 0, 1) := by decide +kernel
theorem dX12_readText_15 : decode cX12_readText 15 = .ok (.iastore, 1) := by decide +kernel
theorem dX12_readText_16 : decode cX12_readText 16 = .ok (.iinc 2 1, 3) := by decide +kernel
theorem dX12_readText_19 : decode cX12_readText 19 = .ok (.goto (-17), 3) := by decide +kernel
theorem dX12_readText_22 : decode cX12_readText 22 = .ok (.aload_n 0, 1) := by decide +kernel
theorem dX12_readText_23 : decode cX12_readText 23 = .ok (.getfield 35, 3) := by decide +kernel
theorem dX12_readText_26 : decode cX12_readText 26 = .ok (.iconst 0, 1) := by decide +kernel
theorem dX12_readText_27 : decode cX12_readText 27 = .ok (.iload_n 1, 1) := by decide +kernel
theorem dX12_readText_28 : decode cX12_readText 28 = .ok (.ifCond .ne 7, 3) := by decide +kernel
theorem dX12_readText_31 : decode cX12_readText 31 = .ok (.iconst 4, 1) := by decide +kernel
theorem dX12_readText_32 : decode cX12_readText 32 = .ok (.goto 4, 3) := by decide +kernel
theorem dX12_readText_35 : decode cX12_readText 35 = .ok (.iconst 0, 1) := by decide +kernel
theorem dX12_readText_36 : decode cX12_readText 36 = .ok (.iastore, 1) := by decide +kernel
theorem dX12_readText_37 : decode cX12_readText 37 = .ok (.aload_n 0, 1) := by decide +kernel
theorem dX12_readText_38 : decode cX12_readText 38 = .ok (.getfield 35, 3) := by decide +kernel
theorem dX12_readText_41 : decode cX12_readText 41 = .ok (.iconst 1, 1) := by decide +kernel
theorem dX12_readText_42 : decode cX12_readText 42 = .ok (.iload_n 1, 1) := by decide +kernel
theorem dX12_readText_43 : decode cX12_readText 43 = .ok (.ifCond .ne 7, 3) := by decide +kernel
theorem dX12_readText_46 : decode cX12_readText 46 = .ok (.iconst 4, 1) := by decide +kernel
theorem dX12_readText_47 : decode cX12_readText 47 = .ok (.goto 4, 3) := by decide +kernel
theorem dX12_readText_50 : decode cX12_readText 50 = .ok (.iconst 0, 1) := by decide +kernel
theorem dX12_readText_51 : decode cX12_readText 51 = .ok (.iastore, 1) := by decide +kernel
theorem dX12_readText_52 : decode cX12_readText 52 = .ok (.aload_n 0, 1) := by decide +kernel
theorem dX12_readText_53 : decode cX12_readText 53 = .ok (.iconst (-1), 1) := by decide +kernel
theorem dX12_readText_54 : decode cX12_readText 54 = .ok (.putfield 223, 3) := by decide +kernel
theorem dX12_readText_57 : decode cX12_readText 57 = .ok (.aload_n 0, 1) := by decide +kernel
theorem dX12_readText_58 : decode cX12_readText 58 = .ok (.iconst 0, 1) := by decide +kernel
theorem dX12_readText_59 : decode cX12_readText 59 = .ok (.putfield 173, 3) := by decide +kernel
theorem dX12_readText_62 : decode cX12_readText 62 = .ok (.aload_n 0, 1) := by decide +kernel
theorem dX12_readText_63 : decode cX12_readText 63 = .ok (.iconst 0, 1) := by decide +kernel
theorem dX12_readText_64 : decode cX12_readText 64 = .ok (.putfield 199, 3) := by decide +kernel
theorem dX12_readText_67 : decode cX12_readText 67 = .ok (.aload_n 0, 1) := by decide +kernel
theorem dX12_readText_68 : decode cX12_readText 68 = .ok (.invokevirtual 216, 3) := by decide +kernel
theorem dX12_readText_71 : decode cX12_readText 71 = .ok (.iload_n 1, 1) := by decide +kernel
theorem dX12_readText_72 : decode cX12_readText 72 = .ok (.iconst 1, 1) := by decide +kernel
theorem dX12_readText_73 : decode cX12_readText 73 = .ok (.if_icmp .ne 10, 3) := by decide +kernel
theorem dX12_readText_76 : decode cX12_readText 76 = .ok (.aload_n 0, 1) := by decide +kernel
theorem dX12_readText_77 : decode cX12_readText 77 = .ok (.invokevirtual 255, 3) := by decide +kernel
theorem dX12_readText_80 : decode cX12_readText 80 = .ok (.goto 8, 3) := by decide +kernel
theorem dX12_readText_83 : decode cX12_readText 83 = .ok (.aload_n 0, 1) := by decide +kernel
theorem dX12_readText_84 : decode cX12_readText 84 = .ok (.iload_n 1, 1) := by decide +kernel
theorem dX12_readText_85 : decode cX12_readText 85 = .ok (.invokevirtual 258, 3) := by decide +kernel
theorem dX12_readText_88 : decode cX12_readText 88 = .ok (.istore_n 2, 1) := by decide +kernel
theorem dX12_readText_89 : decode cX12_readText 89 = .ok (.iload_n 2, 1) := by decide +kernel
theorem dX12_readText_90 : decode cX12_readText 90 = .ok (.ifCond .eq 30, 3) := by decide +kernel
theorem dX12_readText_93 : decode cX12_readText 93 = .ok (.iload_n 1, 1) := by decide +kernel
theorem dX12_readText_94 : decode cX12_readText 94 = .ok (.ifCond .ne 26, 3) := by decide +kernel
theorem dX12_readText_97 : decode cX12_readText 97 = .ok (.aload_n 0, 1) := by decide +kernel
theorem dX12_readText_98 : decode cX12_readText 98 = .ok (.getfield 199, 3) := by decide +kernel
theorem dX12_readText_101 : decode cX12_readText 101 = .ok (.ifCond .ne 19, 3) := by decide +kernel
theorem dX12_readText_104 : decode cX12_readText 104 = .ok (.aload_n 0, 1) := by decide +kernel
theorem dX12_readText_105 : decode cX12_readText 105 = .ok (.invokevirtual 262, 3) := by decide +kernel
theorem dX12_readText_108 : decode cX12_readText 108 = .ok (.ifCond .eq 12, 3) := by decide +kernel
theorem dX12_readText_111 : decode cX12_readText 111 = .ok (.aload_n 0, 1) := by decide +kernel
theorem dX12_readText_112 : decode cX12_readText 112 = .ok (.iconst 4, 1) := by decide +kernel
theorem dX12_readText_113 : decode cX12_readText 113 = .ok (.aload_n 0, 1) := by decide +kernel
theorem dX12_readText_114 : decode cX12_readText 114 = .ok (.getfield 183, 3) := by decide +kernel
theorem dX12_readText_117 : decode cX12_readText 117 = .ok (.invokevirtual 212, 3) := by decide +kernel
theorem dX12_readText_120 : decode cX12_readText 120 = .ok (.aload_n 0, 1) := by decide +kernel
theorem dX12_readText_121 : decode cX12_readText 121 = .ok (.getfield 17, 3) := by decide +kernel
theorem dX12_readText_124 : decode cX12_readText 124 = .ok (.iconst 0, 1) := by decide +kernel
theorem dX12_readText_125 : decode cX12_readText 125 = .ok (.iload_n 2, 1) := by decide +kernel
theorem dX12_readText_126 : decode cX12_readText 126 = .ok (.ifCond .eq 10, 3) := by decide +kernel
theorem dX12_readText_129 : decode cX12_readText 129 = .ok (.aload_n 0, 1) := by decide +kernel
theorem dX12_readText_130 : decode cX12_readText 130 = .ok (.getfield 199, 3) := by decide +kernel
theorem dX12_readText_133 : decode cX12_readText 133 = .ok (.goto 4, 3) := by decide +kernel
theorem dX12_readText_136 : decode cX12_readText 136 = .ok (.iconst 1, 1) := by decide +kernel
theorem dX12_readText_137 : decode cX12_readText 137 = .ok (.iastore, 1) := by decide +kernel
theorem dX12_readText_138 : decode cX12_readText 138 = .ok (.aload_n 0, 1) := by decide +kernel
theorem dX12_readText_139 : decode cX12_readText 139 = .ok (.getfield 20, 3) := by decide +kernel
theorem dX12_readText_142 : decode cX12_readText 142 = .ok (.iconst 0, 1) := by decide +kernel
theorem dX12_readText_143 : decode cX12_readText 143 = .ok (.iload_n 2, 1) := by decide +kernel
theorem dX12_readText_144 : decode cX12_readText 144 = .ok (.ifCond .ne 10, 3) := by decide +kernel
theorem dX12_readText_147 : decode cX12_readText 147 = .ok (.aload_n 0, 1) := by decide +kernel
theorem dX12_readText_148 : decode cX12_readText 148 = .ok (.getfield 196, 3) := by decide +kernel
theorem dX12_readText_151 : decode cX12_readText 151 = .ok (.goto 18, 3) := by decide +kernel
theorem dX12_readText_154 : decode cX12_readText 154 = .ok (.aload_n 0, 1) := by decide +kernel
theorem dX12_readText_155 : decode cX12_readText 155 = .ok (.getfield 199, 3) := by decide +kernel
theorem dX12_readText_158 : decode cX12_readText 158 = .ok (.ifCond .le 10, 3) := by decide +kernel
theorem dX12_readText_161 : decode cX12_readText 161 = .ok (.aload_n 0, 1) := by decide +kernel
theorem dX12_readText_162 : decode cX12_readText 162 = .ok (.getfield 202, 3) := by decide +kernel
theorem dX12_readText_165 : decode cX12_readText 165 = .ok (.goto 4, 3) := by decide +kernel
theorem dX12_readText_168 : decode cX12_readText 168 = .ok (.iconst (-1), 1) := by decide +kernel
theorem dX12_readText_169 : decode cX12_readText 169 = .ok (.iastore, 1) := by decide +kernel
theorem dX12_readText_170 : decode cX12_readText 170 = .ok (.aload_n 0, 1) := by decide +kernel
theorem dX12_readText_171 : decode cX12_readText 171 = .ok (.getfield 17, 3) := by decide +kernel
theorem dX12_readText_174 : decode cX12_readText 174 = .ok (.iconst 0, 1) := by decide +kernel
theorem dX12_readText_175 : decode cX12_readText 175 = .ok (.iaload, 1) := by decide +kernel
theorem dX12_readText_176 : decode cX12_readText 176 = .ok (.ifCond .ne 7, 3) := by decide +kernel
theorem dX12_readText_179 : decode cX12_readText 179 = .ok (.iconst 1, 1) := by decide +kernel
theorem dX12_readText_180 : decode cX12_readText 180 = .ok (.goto 4, 3) := by decide +kernel
theorem dX12_readText_183 : decode cX12_readText 183 = .ok (.iconst 0, 1) := by decide +kernel
theorem dX12_readText_184 : decode cX12_readText 184 = .ok (.ireturn, 1) := by decide +kernel
theorem dX12_store_0 : decode cX12_store 0 = .ok (.iconst 0, 1) := by decide +kernel
theorem dX12_store_1 : decode cX12_store 1 = .ok (.istore 4, 2) := by decide +kernel
theorem dX12_store_3 : decode cX12_store 3 = .ok (.iload 4, 2) := by decide +kernel
theorem dX12_store_5 : decode cX12_store 5 = .ok (.iload_n 2, 1) := by decide +kernel
theorem dX12_store_6 : decode cX12_store 6 = .ok (.if_icmp .ge 24, 3) := by decide +kernel
theorem dX12_store_9 : decode cX12_store 9 = .ok (.aload_n 1, 1) := by decide +kernel
theorem dX12_store_10 : decode cX12_store 10 = .ok (.iload_n 2, 1) := by decide +kernel
theorem dX12_store_11 : decode cX12_store 11 = .ok (.iload_n 3, 1) := by decide +kernel
theorem dX12_store_12 : decode cX12_store 12 = .ok (.imul, 1) := by decide +kernel
theorem dX12_store_13 : decode cX12_store 13 = .ok (.iload 4, 2) := by decide +kernel
theorem dX12_store_15 : decode cX12_store 15 = .ok (.iadd, 1) := by decide +kernel
theorem dX12_store_16 : decode cX12_store 16 = .ok (.aload_n 0, 1) := by decide +kernel
theorem dX12_store_17 : decode cX12_store 17 = .ok (.getfield 35, 3) := by decide +kernel
theorem dX12_store_20 : decode cX12_store 20 = .ok (.iload 4, 2) := by decide +kernel
theorem dX12_store_22 : decode cX12_store 22 = .ok (.iaload, 1) := by decide +kernel
theorem dX12_store_23 : decode cX12_store 23 = .ok (.iastore, 1) := by decide +kernel
theorem dX12_store_24 : decode cX12_store 24 = .ok (.iinc 4 1, 3) := by decide +kernel
theorem dX12_store_27 : decode cX12_store 27 = .ok (.goto (-24), 3) := by decide +kernel
theorem dX12_store_30 : decode cX12_store 30 = .ok (.return_, 1) := by decide +kernel
theorem dX12_mostOf_0 : decode cX12_mostOf 0 = .ok (.iload_n 0, 1) := by decide +kernel
theorem dX12_mostOf_1 : decode cX12_mostOf 1 = .ok (.iconst 1, 1) := by decide +kernel
theorem dX12_mostOf_2 : decode cX12_mostOf 2 = .ok (.if_icmp .ne 7, 3) := by decide +kernel
theorem dX12_mostOf_5 : decode cX12_mostOf 5 = .ok (.iconst 3, 1) := by decide +kernel
theorem dX12_mostOf_6 : decode cX12_mostOf 6 = .ok (.goto 4, 3) := by decide +kernel
theorem dX12_mostOf_9 : decode cX12_mostOf 9 = .ok (.iconst 2, 1) := by decide +kernel
theorem dX12_mostOf_10 : decode cX12_mostOf 10 = .ok (.ireturn, 1) := by decide +kernel
theorem dX12_text_0 : decode cX12_text 0 = .ok (.aload_n 0, 1) := by decide +kernel
theorem dX12_text_1 : decode cX12_text 1 = .ok (.iconst 0, 1) := by decide +kernel
theorem dX12_text_2 : decode cX12_text 2 = .ok (.putfield 157, 3) := by decide +kernel
theorem dX12_text_5 : decode cX12_text 5 = .ok (.aload_n 0, 1) := by decide +kernel
theorem dX12_text_6 : decode cX12_text 6 = .ok (.aload_n 0, 1) := by decide +kernel
theorem dX12_text_7 : decode cX12_text 7 = .ok (.getfield 13, 3) := by decide +kernel
theorem dX12_text_10 : decode cX12_text 10 = .ok (.iconst 0, 1) := by decide +kernel
theorem dX12_text_11 : decode cX12_text 11 = .ok (.iaload, 1) := by decide +kernel
theorem dX12_text_12 : decode cX12_text 12 = .ok (.putfield 176, 3) := by decide +kernel
theorem dX12_text_15 : decode cX12_text 15 = .ok (.aload_n 0, 1) := by decide +kernel
theorem dX12_text_16 : decode cX12_text 16 = .ok (.getfield 13, 3) := by decide +kernel
theorem dX12_text_19 : decode cX12_text 19 = .ok (.iconst 0, 1) := by decide +kernel
theorem dX12_text_20 : decode cX12_text 20 = .ok (.iconst 0, 1) := by decide +kernel
theorem dX12_text_21 : decode cX12_text 21 = .ok (.iastore, 1) := by decide +kernel
theorem dX12_text_22 : decode cX12_text 22 = .ok (.aload_n 0, 1) := by decide +kernel
theorem dX12_text_23 : decode cX12_text 23 = .ok (.getfield 17, 3) := by decide +kernel
theorem dX12_text_26 : decode cX12_text 26 = .ok (.iconst 0, 1) := by decide +kernel
theorem dX12_text_27 : decode cX12_text 27 = .ok (.iconst 0, 1) := by decide +kernel
theorem dX12_text_28 : decode cX12_text 28 = .ok (.iastore, 1) := by decide +kernel
theorem dX12_text_29 : decode cX12_text 29 = .ok (.aload_n 0, 1) := by decide +kernel
theorem dX12_text_30 : decode cX12_text 30 = .ok (.getfield 20, 3) := by decide +kernel
theorem dX12_text_33 : decode cX12_text 33 = .ok (.iconst 0, 1) := by decide +kernel
theorem dX12_text_34 : decode cX12_text 34 = .ok (.iconst (-1), 1) := by decide +kernel
theorem dX12_text_35 : decode cX12_text 35 = .ok (.iastore, 1) := by decide +kernel
theorem dX12_text_36 : decode cX12_text 36 = .ok (.iload_n 1, 1) := by decide +kernel
theorem dX12_text_37 : decode cX12_text 37 = .ok (.iconst 0, 1) := by decide +kernel
theorem dX12_text_38 : decode cX12_text 38 = .ok (.iconst 2, 1) := by decide +kernel
theorem dX12_text_39 : decode cX12_text 39 = .ok (.invokestatic 165, 3) := by decide +kernel
theorem dX12_text_42 : decode cX12_text 42 = .ok (.ifCond .eq 33, 3) := by decide +kernel
theorem dX12_text_45 : decode cX12_text 45 = .ok (.iload_n 2, 1) := by decide +kernel
theorem dX12_text_46 : decode cX12_text 46 = .ok (.iconst (-1), 1) := by decide +kernel
theorem dX12_text_47 : decode cX12_text 47 = .ok (.if_icmp .ne 19, 3) := by decide +kernel
theorem dX12_text_50 : decode cX12_text 50 = .ok (.aload_n 0, 1) := by decide +kernel
theorem dX12_text_51 : decode cX12_text 51 = .ok (.getfield 23, 3) := by decide +kernel
theorem dX12_text_54 : decode cX12_text 54 = .ok (.iload_n 1, 1) := by decide +kernel
theorem dX12_text_55 : decode cX12_text 55 = .ok (.iaload, 1) := by decide +kernel
theorem dX12_text_56 : decode cX12_text 56 = .ok (.iload_n 1, 1) := by decide +kernel
theorem dX12_text_57 : decode cX12_text 57 = .ok (.invokestatic 265, 3) := by decide +kernel
theorem dX12_text_60 : decode cX12_text 60 = .ok (.if_icmp .ne 18, 3) := by decide +kernel
theorem dX12_text_63 : decode cX12_text 63 = .ok (.goto 12, 3) := by decide +kernel
theorem dX12_text_66 : decode cX12_text 66 = .ok (.aload_n 0, 1) := by decide +kernel
theorem dX12_text_67 : decode cX12_text 67 = .ok (.iload_n 1, 1) := by decide +kernel
theorem dX12_text_68 : decode cX12_text 68 = .ok (.iload_n 2, 1) := by decide +kernel
theorem dX12_text_69 : decode cX12_text 69 = .ok (.invokevirtual 268, 3) := by decide +kernel
theorem dX12_text_72 : decode cX12_text 72 = .ok (.ifCond .ne 6, 3) := by decide +kernel
theorem dX12_text_75 : decode cX12_text 75 = .ok (.bipush (-2), 2) := by decide +kernel
theorem dX12_text_77 : decode cX12_text 77 = .ok (.ireturn, 1) := by decide +kernel
theorem dX12_text_78 : decode cX12_text 78 = .ok (.aload_n 0, 1) := by decide +kernel
theorem dX12_text_79 : decode cX12_text 79 = .ok (.iload_n 1, 1) := by decide +kernel
theorem dX12_text_80 : decode cX12_text 80 = .ok (.invokevirtual 271, 3) := by decide +kernel
theorem dX12_text_83 : decode cX12_text 83 = .ok (.ifCond .ne 5, 3) := by decide +kernel
theorem dX12_text_86 : decode cX12_text 86 = .ok (.iconst (-1), 1) := by decide +kernel
theorem dX12_text_87 : decode cX12_text 87 = .ok (.ireturn, 1) := by decide +kernel
theorem dX12_text_88 : decode cX12_text 88 = .ok (.iload_n 2, 1) := by decide +kernel
theorem dX12_text_89 : decode cX12_text 89 = .ok (.iconst (-1), 1) := by decide +kernel
theorem dX12_text_90 : decode cX12_text 90 = .ok (.if_icmp .ne 12, 3) := by decide +kernel
theorem dX12_text_93 : decode cX12_text 93 = .ok (.aload_n 0, 1) := by decide +kernel
theorem dX12_text_94 : decode cX12_text 94 = .ok (.getfield 23, 3) := by decide +kernel
theorem dX12_text_97 : decode cX12_text 97 = .ok (.iload_n 1, 1) := by decide +kernel
theorem dX12_text_98 : decode cX12_text 98 = .ok (.iaload, 1) := by decide +kernel
theorem dX12_text_99 : decode cX12_text 99 = .ok (.goto 4, 3) := by decide +kernel
theorem dX12_text_102 : decode cX12_text 102 = .ok (.iload_n 2, 1) := by decide +kernel
theorem dX12_text_103 : decode cX12_text 103 = .ok (.istore_n 3, 1) := by decide +kernel
theorem dX12_text_104 : decode cX12_text 104 = .ok (.aload_n 0, 1) := by decide +kernel
theorem dX12_text_105 : decode cX12_text 105 = .ok (.getfield 23, 3) := by decide +kernel
theorem dX12_text_108 : decode cX12_text 108 = .ok (.iload_n 1, 1) := by decide +kernel
theorem dX12_text_109 : decode cX12_text 109 = .ok (.dup2, 1) := by decide +kernel
theorem dX12_text_110 : decode cX12_text 110 = .ok (.iaload, 1) := by decide +kernel
theorem dX12_text_111 : decode cX12_text 111 = .ok (.iload_n 2, 1) := by decide +kernel
theorem dX12_text_112 : decode cX12_text 112 = .ok (.iconst (-1), 1) := by decide +kernel
theorem dX12_text_113 : decode cX12_text 113 = .ok (.if_icmp .ne 7, 3) := by decide +kernel
theorem dX12_text_116 : decode cX12_text 116 = .ok (.iconst 1, 1) := by decide +kernel
theorem dX12_text_117 : decode cX12_text 117 = .ok (.goto 4, 3) := by decide +kernel
theorem dX12_text_120 : decode cX12_text 120 = .ok (.iconst 0, 1) := by decide +kernel
theorem dX12_text_121 : decode cX12_text 121 = .ok (.iadd, 1) := by decide +kernel
theorem dX12_text_122 : decode cX12_text 122 = .ok (.iastore, 1) := by decide +kernel
theorem dX12_text_123 : decode cX12_text 123 = .ok (.iload_n 1, 1) := by decide +kernel
theorem dX12_text_124 : decode cX12_text 124 = .ok (.lookupswitch 56 #[(0, 28), (1, 42)], 28) := by decide +kernel
theorem dX12_text_152 : decode cX12_text 152 = .ok (.aload_n 0, 1) := by decide +kernel
theorem dX12_text_153 : decode cX12_text 153 = .ok (.aload_n 0, 1) := by decide +kernel
theorem dX12_text_154 : decode cX12_text 154 = .ok (.getfield 26, 3) := by decide +kernel
theorem dX12_text_157 : decode cX12_text 157 = .ok (.bipush 51, 2) := by decide +kernel
theorem dX12_text_159 : decode cX12_text 159 = .ok (.iload_n 3, 1) := by decide +kernel
theorem dX12_text_160 : decode cX12_text 160 = .ok (.invokevirtual 274, 3) := by decide +kernel
theorem dX12_text_163 : decode cX12_text 163 = .ok (.goto 29, 3) := by decide +kernel
theorem dX12_text_166 : decode cX12_text 166 = .ok (.aload_n 0, 1) := by decide +kernel
theorem dX12_text_167 : decode cX12_text 167 = .ok (.aload_n 0, 1) := by decide +kernel
theorem dX12_text_168 : decode cX12_text 168 = .ok (.getfield 29, 3) := by decide +kernel
theorem dX12_text_171 : decode cX12_text 171 = .ok (.bipush 10, 2) := by decide +kernel
theorem dX12_text_173 : decode cX12_text 173 = .ok (.iload_n 3, 1) := by decide +kernel
theorem dX12_text_174 : decode cX12_text 174 = .ok (.invokevirtual 274, 3) := by decide +kernel
theorem dX12_text_177 : decode cX12_text 177 = .ok (.goto 15, 3) := by decide +kernel
theorem dX12_text_180 : decode cX12_text 180 = .ok (.aload_n 0, 1) := by decide +kernel
theorem dX12_text_181 : decode cX12_text 181 = .ok (.aload_n 0, 1) := by decide +kernel
theorem dX12_text_182 : decode cX12_text 182 = .ok (.getfield 32, 3) := by decide +kernel
theorem dX12_text_185 : decode cX12_text 185 = .ok (.sipush 331, 3) := by decide +kernel
theorem dX12_text_188 : decode cX12_text 188 = .ok (.iload_n 3, 1) := by decide +kernel
theorem dX12_text_189 : decode cX12_text 189 = .ok (.invokevirtual 274, 3) := by decide +kernel
theorem dX12_text_192 : decode cX12_text 192 = .ok (.iload_n 3, 1) := by decide +kernel
theorem dX12_text_193 : decode cX12_text 193 = .ok (.ireturn, 1) := by decide +kernel
theorem dX12_fault_0 : decode cX12_fault 0 = .ok (.aload_n 0, 1) := by decide +kernel
theorem dX12_fault_1 : decode cX12_fault 1 = .ok (.iconst 0, 1) := by decide +kernel
theorem dX12_fault_2 : decode cX12_fault 2 = .ok (.putfield 157, 3) := by decide +kernel
theorem dX12_fault_5 : decode cX12_fault 5 = .ok (.iload_n 1, 1) := by decide +kernel
theorem dX12_fault_6 : decode cX12_fault 6 = .ok (.ifCond .ne 12, 3) := by decide +kernel
theorem dX12_fault_9 : decode cX12_fault 9 = .ok (.aload_n 0, 1) := by decide +kernel
theorem dX12_fault_10 : decode cX12_fault 10 = .ok (.getfield 17, 3) := by decide +kernel
theorem dX12_fault_13 : decode cX12_fault 13 = .ok (.iconst 0, 1) := by decide +kernel
theorem dX12_fault_14 : decode cX12_fault 14 = .ok (.iaload, 1) := by decide +kernel
theorem dX12_fault_15 : decode cX12_fault 15 = .ok (.goto 18, 3) := by decide +kernel
theorem dX12_fault_18 : decode cX12_fault 18 = .ok (.iload_n 1, 1) := by decide +kernel
theorem dX12_fault_19 : decode cX12_fault 19 = .ok (.iconst 1, 1) := by decide +kernel
theorem dX12_fault_20 : decode cX12_fault 20 = .ok (.if_icmp .ne 12, 3) := by decide +kernel
theorem dX12_fault_23 : decode cX12_fault 23 = .ok (.aload_n 0, 1) := by decide +kernel
theorem dX12_fault_24 : decode cX12_fault 24 = .ok (.getfield 20, 3) := by decide +kernel
theorem dX12_fault_27 : decode cX12_fault 27 = .ok (.iconst 0, 1) := by decide +kernel
theorem dX12_fault_28 : decode cX12_fault 28 = .ok (.iaload, 1) := by decide +kernel
theorem dX12_fault_29 : decode cX12_fault 29 = .ok (.goto 4, 3) := by decide +kernel
theorem dX12_fault_32 : decode cX12_fault 32 = .ok (.iconst (-1), 1) := by decide +kernel
theorem dX12_fault_33 : decode cX12_fault 33 = .ok (.ireturn, 1) := by decide +kernel
theorem dX12_hand_0 : decode cX12_hand 0 = .ok (.aload_n 0, 1) := by decide +kernel
theorem dX12_hand_1 : decode cX12_hand 1 = .ok (.iconst 0, 1) := by decide +kernel
theorem dX12_hand_2 : decode cX12_hand 2 = .ok (.iload_n 1, 1) := by decide +kernel
theorem dX12_hand_3 : decode cX12_hand 3 = .ok (.invokevirtual 268, 3) := by decide +kernel
theorem dX12_hand_6 : decode cX12_hand 6 = .ok (.ifCond .ne 5, 3) := by decide +kernel
theorem dX12_hand_9 : decode cX12_hand 9 = .ok (.iconst 0, 1) := by decide +kernel
theorem dX12_hand_10 : decode cX12_hand 10 = .ok (.ireturn, 1) := by decide +kernel
theorem dX12_hand_11 : decode cX12_hand 11 = .ok (.bipush 51, 2) := by decide +kernel
theorem dX12_hand_13 : decode cX12_hand 13 = .ok (.iload_n 1, 1) := by decide +kernel
theorem dX12_hand_14 : decode cX12_hand 14 = .ok (.imul, 1) := by decide +kernel
theorem dX12_hand_15 : decode cX12_hand 15 = .ok (.istore_n 2, 1) := by decide +kernel
theorem dX12_hand_16 : decode cX12_hand 16 = .ok (.aload_n 0, 1) := by decide +kernel
theorem dX12_hand_17 : decode cX12_hand 17 = .ok (.aload_n 0, 1) := by decide +kernel
theorem dX12_hand_18 : decode cX12_hand 18 = .ok (.getfield 26, 3) := by decide +kernel
theorem dX12_hand_21 : decode cX12_hand 21 = .ok (.iload_n 2, 1) := by decide +kernel
theorem dX12_hand_22 : decode cX12_hand 22 = .ok (.iaload, 1) := by decide +kernel
theorem dX12_hand_23 : decode cX12_hand 23 = .ok (.putfield 278, 3) := by decide +kernel
theorem dX12_hand_26 : decode cX12_hand 26 = .ok (.aload_n 0, 1) := by decide +kernel
theorem dX12_hand_27 : decode cX12_hand 27 = .ok (.aload_n 0, 1) := by decide +kernel
theorem dX12_hand_28 : decode cX12_hand 28 = .ok (.getfield 26, 3) := by decide +kernel
theorem dX12_hand_31 : decode cX12_hand 31 = .ok (.iload_n 2, 1) := by decide +kernel
theorem dX12_hand_32 : decode cX12_hand 32 = .ok (.iconst 1, 1) := by decide +kernel
theorem dX12_hand_33 : decode cX12_hand 33 = .ok (.iadd, 1) := by decide +kernel
theorem dX12_hand_34 : decode cX12_hand 34 = .ok (.iaload, 1) := by decide +kernel
theorem dX12_hand_35 : decode cX12_hand 35 = .ok (.putfield 281, 3) := by decide +kernel
theorem dX12_hand_38 : decode cX12_hand 38 = .ok (.aload_n 0, 1) := by decide +kernel
theorem dX12_hand_39 : decode cX12_hand 39 = .ok (.aload_n 0, 1) := by decide +kernel
theorem dX12_hand_40 : decode cX12_hand 40 = .ok (.getfield 278, 3) := by decide +kernel
theorem dX12_hand_43 : decode cX12_hand 43 = .ok (.aload_n 0, 1) := by decide +kernel
theorem dX12_hand_44 : decode cX12_hand 44 = .ok (.getfield 281, 3) := by decide +kernel
theorem dX12_hand_47 : decode cX12_hand 47 = .ok (.imul, 1) := by decide +kernel
theorem dX12_hand_48 : decode cX12_hand 48 = .ok (.putfield 284, 3) := by decide +kernel
theorem dX12_hand_51 : decode cX12_hand 51 = .ok (.aload_n 0, 1) := by decide +kernel
theorem dX12_hand_52 : decode cX12_hand 52 = .ok (.aload_n 0, 1) := by decide +kernel
theorem dX12_hand_53 : decode cX12_hand 53 = .ok (.getfield 26, 3) := by decide +kernel
theorem dX12_hand_56 : decode cX12_hand 56 = .ok (.iload_n 2, 1) := by decide +kernel
theorem dX12_hand_57 : decode cX12_hand 57 = .ok (.iconst 2, 1) := by decide +kernel
theorem dX12_hand_58 : decode cX12_hand 58 = .ok (.iadd, 1) := by decide +kernel
theorem dX12_hand_59 : decode cX12_hand 59 = .ok (.iaload, 1) := by decide +kernel
theorem dX12_hand_60 : decode cX12_hand 60 = .ok (.putfield 287, 3) := by decide +kernel
theorem dX12_hand_63 : decode cX12_hand 63 = .ok (.aload_n 0, 1) := by decide +kernel
theorem dX12_hand_64 : decode cX12_hand 64 = .ok (.lconst 0, 1) := by decide +kernel
theorem dX12_hand_65 : decode cX12_hand 65 = .ok (.putfield 290, 3) := by decide +kernel
theorem dX12_hand_68 : decode cX12_hand 68 = .ok (.aload_n 0, 1) := by decide +kernel
theorem dX12_hand_69 : decode cX12_hand 69 = .ok (.lconst 0, 1) := by decide +kernel
theorem dX12_hand_70 : decode cX12_hand 70 = .ok (.putfield 293, 3) := by decide +kernel
theorem dX12_hand_73 : decode cX12_hand 73 = .ok (.iconst 0, 1) := by decide +kernel
theorem dX12_hand_74 : decode cX12_hand 74 = .ok (.istore_n 3, 1) := by decide +kernel
theorem dX12_hand_75 : decode cX12_hand 75 = .ok (.iload_n 3, 1) := by decide +kernel
theorem dX12_hand_76 : decode cX12_hand 76 = .ok (.aload_n 0, 1) := by decide +kernel
theorem dX12_hand_77 : decode cX12_hand 77 = .ok (.getfield 284, 3) := by decide +kernel
theorem dX12_hand_80 : decode cX12_hand 80 = .ok (.if_icmp .ge 71, 3) := by decide +kernel
theorem dX12_hand_83 : decode cX12_hand 83 = .ok (.aload_n 0, 1) := by decide +kernel
theorem dX12_hand_84 : decode cX12_hand 84 = .ok (.dup, 1) := by decide +kernel
theorem dX12_hand_85 : decode cX12_hand 85 = .ok (.getfield 290, 3) := by decide +kernel
theorem dX12_hand_88 : decode cX12_hand 88 = .ok (.aload_n 0, 1) := by decide +kernel
theorem dX12_hand_89 : decode cX12_hand 89 = .ok (.getfield 26, 3) := by decide +kernel
theorem dX12_hand_92 : decode cX12_hand 92 = .ok (.iload_n 2, 1) := by decide +kernel
theorem dX12_hand_93 : decode cX12_hand 93 = .ok (.bipush 15, 2) := by decide +kernel
theorem dX12_hand_95 : decode cX12_hand 95 = .ok (.iadd, 1) := by decide +kernel
theorem dX12_hand_96 : decode cX12_hand 96 = .ok (.iload_n 3, 1) := by decide +kernel
theorem dX12_hand_97 : decode cX12_hand 97 = .ok (.iadd, 1) := by decide +kernel
theorem dX12_hand_98 : decode cX12_hand 98 = .ok (.iaload, 1) := by decide +kernel
theorem dX12_hand_99 : decode cX12_hand 99 = .ok (.iconst 1, 1) := by decide +kernel
theorem dX12_hand_100 : decode cX12_hand 100 = .ok (.if_icmp .ne 9, 3) := by decide +kernel
theorem dX12_hand_103 : decode cX12_hand 103 = .ok (.lconst 1, 1) := by decide +kernel
theorem dX12_hand_104 : decode cX12_hand 104 = .ok (.iload_n 3, 1) := by decide +kernel
theorem dX12_hand_105 : decode cX12_hand 105 = .ok (.lshl, 1) := by decide +kernel
theorem dX12_hand_106 : decode cX12_hand 106 = .ok (.goto 4, 3) := by decide +kernel
theorem dX12_hand_109 : decode cX12_hand 109 = .ok (.lconst 0, 1) := by decide +kernel
theorem dX12_hand_110 : decode cX12_hand 110 = .ok (.lor, 1) := by decide +kernel
theorem dX12_hand_111 : decode cX12_hand 111 = .ok (.putfield 290, 3) := by decide +kernel
theorem dX12_hand_114 : decode cX12_hand 114 = .ok (.aload_n 0, 1) := by decide +kernel
theorem dX12_hand_115 : decode cX12_hand 115 = .ok (.dup, 1) := by decide +kernel
theorem dX12_hand_116 : decode cX12_hand 116 = .ok (.getfield 293, 3) := by decide +kernel
theorem dX12_hand_119 : decode cX12_hand 119 = .ok (.aload_n 0, 1) := by decide +kernel
theorem dX12_hand_120 : decode cX12_hand 120 = .ok (.getfield 26, 3) := by decide +kernel
theorem dX12_hand_123 : decode cX12_hand 123 = .ok (.iload_n 2, 1) := by decide +kernel
theorem dX12_hand_124 : decode cX12_hand 124 = .ok (.bipush 15, 2) := by decide +kernel
theorem dX12_hand_126 : decode cX12_hand 126 = .ok (.iadd, 1) := by decide +kernel
theorem dX12_hand_127 : decode cX12_hand 127 = .ok (.iload_n 3, 1) := by decide +kernel
theorem dX12_hand_128 : decode cX12_hand 128 = .ok (.iadd, 1) := by decide +kernel
theorem dX12_hand_129 : decode cX12_hand 129 = .ok (.iaload, 1) := by decide +kernel
theorem dX12_hand_130 : decode cX12_hand 130 = .ok (.iconst 2, 1) := by decide +kernel
theorem dX12_hand_131 : decode cX12_hand 131 = .ok (.if_icmp .ne 9, 3) := by decide +kernel
theorem dX12_hand_134 : decode cX12_hand 134 = .ok (.lconst 1, 1) := by decide +kernel
theorem dX12_hand_135 : decode cX12_hand 135 = .ok (.iload_n 3, 1) := by decide +kernel
theorem dX12_hand_136 : decode cX12_hand 136 = .ok (.lshl, 1) := by decide +kernel
theorem dX12_hand_137 : decode cX12_hand 137 = .ok (.goto 4, 3) := by decide +kernel
theorem dX12_hand_140 : decode cX12_hand 140 = .ok (.lconst 0, 1) := by decide +kernel
theorem dX12_hand_141 : decode cX12_hand 141 = .ok (.lor, 1) := by decide +kernel
theorem dX12_hand_142 : decode cX12_hand 142 = .ok (.putfield 293, 3) := by decide +kernel
theorem dX12_hand_145 : decode cX12_hand 145 = .ok (.iinc 3 1, 3) := by decide +kernel
theorem dX12_hand_148 : decode cX12_hand 148 = .ok (.goto (-73), 3) := by decide +kernel
theorem dX12_hand_151 : decode cX12_hand 151 = .ok (.iconst 0, 1) := by decide +kernel
theorem dX12_hand_152 : decode cX12_hand 152 = .ok (.istore_n 3, 1) := by decide +kernel
theorem dX12_hand_153 : decode cX12_hand 153 = .ok (.iload_n 3, 1) := by decide +kernel
theorem dX12_hand_154 : decode cX12_hand 154 = .ok (.aload_n 0, 1) := by decide +kernel
theorem dX12_hand_155 : decode cX12_hand 155 = .ok (.getfield 287, 3) := by decide +kernel
theorem dX12_hand_158 : decode cX12_hand 158 = .ok (.if_icmp .ge 47, 3) := by decide +kernel
theorem dX12_hand_161 : decode cX12_hand 161 = .ok (.aload_n 0, 1) := by decide +kernel
theorem dX12_hand_162 : decode cX12_hand 162 = .ok (.getfield 41, 3) := by decide +kernel
theorem dX12_hand_165 : decode cX12_hand 165 = .ok (.iload_n 3, 1) := by decide +kernel
theorem dX12_hand_166 : decode cX12_hand 166 = .ok (.aload_n 0, 1) := by decide +kernel
theorem dX12_hand_167 : decode cX12_hand 167 = .ok (.getfield 26, 3) := by decide +kernel
theorem dX12_hand_170 : decode cX12_hand 170 = .ok (.iload_n 2, 1) := by decide +kernel
theorem dX12_hand_171 : decode cX12_hand 171 = .ok (.iconst 3, 1) := by decide +kernel
theorem dX12_hand_172 : decode cX12_hand 172 = .ok (.iadd, 1) := by decide +kernel
theorem dX12_hand_173 : decode cX12_hand 173 = .ok (.iconst 2, 1) := by decide +kernel
theorem dX12_hand_174 : decode cX12_hand 174 = .ok (.iload_n 3, 1) := by decide +kernel
theorem dX12_hand_175 : decode cX12_hand 175 = .ok (.imul, 1) := by decide +kernel
theorem dX12_hand_176 : decode cX12_hand 176 = .ok (.iadd, 1) := by decide +kernel
theorem dX12_hand_177 : decode cX12_hand 177 = .ok (.iaload, 1) := by decide +kernel
theorem dX12_hand_178 : decode cX12_hand 178 = .ok (.iastore, 1) := by decide +kernel
theorem dX12_hand_179 : decode cX12_hand 179 = .ok (.aload_n 0, 1) := by decide +kernel
theorem dX12_hand_180 : decode cX12_hand 180 = .ok (.getfield 44, 3) := by decide +kernel
theorem dX12_hand_183 : decode cX12_hand 183 = .ok (.iload_n 3, 1) := by decide +kernel
theorem dX12_hand_184 : decode cX12_hand 184 = .ok (.aload_n 0, 1) := by decide +kernel
theorem dX12_hand_185 : decode cX12_hand 185 = .ok (.getfield 26, 3) := by decide +kernel
theorem dX12_hand_188 : decode cX12_hand 188 = .ok (.iload_n 2, 1) := by decide +kernel
theorem dX12_hand_189 : decode cX12_hand 189 = .ok (.iconst 3, 1) := by decide +kernel
theorem dX12_hand_190 : decode cX12_hand 190 = .ok (.iadd, 1) := by decide +kernel
theorem dX12_hand_191 : decode cX12_hand 191 = .ok (.iconst 2, 1) := by decide +kernel
theorem dX12_hand_192 : decode cX12_hand 192 = .ok (.iload_n 3, 1) := by decide +kernel
theorem dX12_hand_193 : decode cX12_hand 193 = .ok (.imul, 1) := by decide +kernel
theorem dX12_hand_194 : decode cX12_hand 194 = .ok (.iadd, 1) := by decide +kernel
theorem dX12_hand_195 : decode cX12_hand 195 = .ok (.iconst 1, 1) := by decide +kernel
theorem dX12_hand_196 : decode cX12_hand 196 = .ok (.iadd, 1) := by decide +kernel
theorem dX12_hand_197 : decode cX12_hand 197 = .ok (.iaload, 1) := by decide +kernel
theorem dX12_hand_198 : decode cX12_hand 198 = .ok (.iastore, 1) := by decide +kernel
theorem dX12_hand_199 : decode cX12_hand 199 = .ok (.iinc 3 1, 3) := by decide +kernel
theorem dX12_hand_202 : decode cX12_hand 202 = .ok (.goto (-49), 3) := by decide +kernel
theorem dX12_hand_205 : decode cX12_hand 205 = .ok (.aload_n 0, 1) := by decide +kernel
theorem dX12_hand_206 : decode cX12_hand 206 = .ok (.getfield 47, 3) := by decide +kernel
theorem dX12_hand_209 : decode cX12_hand 209 = .ok (.iconst 0, 1) := by decide +kernel
theorem dX12_hand_210 : decode cX12_hand 210 = .ok (.iconst (-1), 1) := by decide +kernel
theorem dX12_hand_211 : decode cX12_hand 211 = .ok (.iastore, 1) := by decide +kernel
theorem dX12_hand_212 : decode cX12_hand 212 = .ok (.aload_n 0, 1) := by decide +kernel
theorem dX12_hand_213 : decode cX12_hand 213 = .ok (.getfield 47, 3) := by decide +kernel
theorem dX12_hand_216 : decode cX12_hand 216 = .ok (.iconst 1, 1) := by decide +kernel
theorem dX12_hand_217 : decode cX12_hand 217 = .ok (.iconst (-1), 1) := by decide +kernel
theorem dX12_hand_218 : decode cX12_hand 218 = .ok (.iastore, 1) := by decide +kernel
theorem dX12_hand_219 : decode cX12_hand 219 = .ok (.aload_n 0, 1) := by decide +kernel
theorem dX12_hand_220 : decode cX12_hand 220 = .ok (.iconst 0, 1) := by decide +kernel
theorem dX12_hand_221 : decode cX12_hand 221 = .ok (.putfield 296, 3) := by decide +kernel
theorem dX12_hand_224 : decode cX12_hand 224 = .ok (.iconst 1, 1) := by decide +kernel
theorem dX12_hand_225 : decode cX12_hand 225 = .ok (.ireturn, 1) := by decide +kernel
theorem dX12_ones_0 : decode cX12_ones 0 = .ok (.iconst 0, 1) := by decide +kernel
theorem dX12_ones_1 : decode cX12_ones 1 = .ok (.istore_n 2, 1) := by decide +kernel
theorem dX12_ones_2 : decode cX12_ones 2 = .ok (.iconst 0, 1) := by decide +kernel
theorem dX12_ones_3 : decode cX12_ones 3 = .ok (.istore_n 3, 1) := by decide +kernel
theorem dX12_ones_4 : decode cX12_ones 4 = .ok (.iload_n 3, 1) := by decide +kernel
theorem dX12_ones_5 : decode cX12_ones 5 = .ok (.bipush 36, 2) := by decide +kernel
theorem dX12_ones_7 : decode cX12_ones 7 = .ok (.if_icmp .ge 25, 3) := by decide +kernel
theorem dX12_ones_10 : decode cX12_ones 10 = .ok (.iload_n 2, 1) := by decide +kernel
theorem dX12_ones_11 : decode cX12_ones 11 = .ok (.lload_n 0, 1) := by decide +kernel
theorem dX12_ones_12 : decode cX12_ones 12 = .ok (.iload_n 3, 1) := by decide +kernel
theorem dX12_ones_13 : decode cX12_ones 13 = .ok (.invokestatic 299, 3) := by decide +kernel
theorem dX12_ones_16 : decode cX12_ones 16 = .ok (.ifCond .eq 7, 3) := by decide +kernel
theorem dX12_ones_19 : decode cX12_ones 19 = .ok (.iconst 1, 1) := by decide +kernel
theorem dX12_ones_20 : decode cX12_ones 20 = .ok (.goto 4, 3) := by decide +kernel
theorem dX12_ones_23 : decode cX12_ones 23 = .ok (.iconst 0, 1) := by decide +kernel
theorem dX12_ones_24 : decode cX12_ones 24 = .ok (.iadd, 1) := by decide +kernel
theorem dX12_ones_25 : decode cX12_ones 25 = .ok (.istore_n 2, 1) := by decide +kernel
theorem dX12_ones_26 : decode cX12_ones 26 = .ok (.iinc 3 1, 3) := by decide +kernel
theorem dX12_ones_29 : decode cX12_ones 29 = .ok (.goto (-25), 3) := by decide +kernel
theorem dX12_ones_32 : decode cX12_ones 32 = .ok (.iload_n 2, 1) := by decide +kernel
theorem dX12_ones_33 : decode cX12_ones 33 = .ok (.ireturn, 1) := by decide +kernel
theorem dX12_board_0 : decode cX12_board 0 = .ok (.aload_n 0, 1) := by decide +kernel
theorem dX12_board_1 : decode cX12_board 1 = .ok (.iconst 0, 1) := by decide +kernel
theorem dX12_board_2 : decode cX12_board 2 = .ok (.putfield 157, 3) := by decide +kernel
theorem dX12_board_5 : decode cX12_board 5 = .ok (.aload_n 0, 1) := by decide +kernel
theorem dX12_board_6 : decode cX12_board 6 = .ok (.iload_n 1, 1) := by decide +kernel
theorem dX12_board_7 : decode cX12_board 7 = .ok (.invokevirtual 302, 3) := by decide +kernel
theorem dX12_board_10 : decode cX12_board 10 = .ok (.ifCond .eq 12, 3) := by decide +kernel
theorem dX12_board_13 : decode cX12_board 13 = .ok (.iload_n 2, 1) := by decide +kernel
theorem dX12_board_14 : decode cX12_board 14 = .ok (.iconst 0, 1) := by decide +kernel
theorem dX12_board_15 : decode cX12_board 15 = .ok (.iconst 4, 1) := by decide +kernel
theorem dX12_board_16 : decode cX12_board 16 = .ok (.invokestatic 165, 3) := by decide +kernel
theorem dX12_board_19 : decode cX12_board 19 = .ok (.ifCond .ne 5, 3) := by decide +kernel
theorem dX12_board_22 : decode cX12_board 22 = .ok (.iconst (-1), 1) := by decide +kernel
theorem dX12_board_23 : decode cX12_board 23 = .ok (.ireturn, 1) := by decide +kernel
theorem dX12_board_24 : decode cX12_board 24 = .ok (.iload_n 2, 1) := by decide +kernel
theorem dX12_board_25 : decode cX12_board 25 = .ok (.ifCond .ne 10, 3) := by decide +kernel
theorem dX12_board_28 : decode cX12_board 28 = .ok (.aload_n 0, 1) := by decide +kernel
theorem dX12_board_29 : decode cX12_board 29 = .ok (.getfield 278, 3) := by decide +kernel
theorem dX12_board_32 : decode cX12_board 32 = .ok (.goto 46, 3) := by decide +kernel
theorem dX12_board_35 : decode cX12_board 35 = .ok (.iload_n 2, 1) := by decide +kernel
theorem dX12_board_36 : decode cX12_board 36 = .ok (.iconst 1, 1) := by decide +kernel
theorem dX12_board_37 : decode cX12_board 37 = .ok (.if_icmp .ne 10, 3) := by decide +kernel
theorem dX12_board_40 : decode cX12_board 40 = .ok (.aload_n 0, 1) := by decide +kernel
theorem dX12_board_41 : decode cX12_board 41 = .ok (.getfield 281, 3) := by decide +kernel
theorem dX12_board_44 : decode cX12_board 44 = .ok (.goto 34, 3) := by decide +kernel
theorem dX12_board_47 : decode cX12_board 47 = .ok (.iload_n 2, 1) := by decide +kernel
theorem dX12_board_48 : decode cX12_board 48 = .ok (.iconst 2, 1) := by decide +kernel
theorem dX12_board_49 : decode cX12_board 49 = .ok (.if_icmp .ne 10, 3) := by decide +kernel
theorem dX12_board_52 : decode cX12_board 52 = .ok (.aload_n 0, 1) := by decide +kernel
theorem dX12_board_53 : decode cX12_board 53 = .ok (.getfield 287, 3) := by decide +kernel
theorem dX12_board_56 : decode cX12_board 56 = .ok (.goto 22, 3) := by decide +kernel
theorem dX12_board_59 : decode cX12_board 59 = .ok (.iload_n 2, 1) := by decide +kernel
theorem dX12_board_60 : decode cX12_board 60 = .ok (.iconst 3, 1) := by decide +kernel
theorem dX12_board_61 : decode cX12_board 61 = .ok (.if_icmp .ne 10, 3) := by decide +kernel
theorem dX12_board_64 : decode cX12_board 64 = .ok (.aload_n 0, 1) := by decide +kernel
theorem dX12_board_65 : decode cX12_board 65 = .ok (.getfield 290, 3) := by decide +kernel
theorem dX12_board_68 : decode cX12_board 68 = .ok (.goto 7, 3) := by decide +kernel
theorem dX12_board_71 : decode cX12_board 71 = .ok (.aload_n 0, 1) := by decide +kernel
theorem dX12_board_72 : decode cX12_board 72 = .ok (.getfield 293, 3) := by decide +kernel
theorem dX12_board_75 : decode cX12_board 75 = .ok (.invokestatic 305, 3) := by decide +kernel
theorem dX12_board_78 : decode cX12_board 78 = .ok (.ireturn, 1) := by decide +kernel
theorem dX12_manAt_0 : decode cX12_manAt 0 = .ok (.iconst 0, 1) := by decide +kernel
theorem dX12_manAt_1 : decode cX12_manAt 1 = .ok (.istore_n 2, 1) := by decide +kernel
theorem dX12_manAt_2 : decode cX12_manAt 2 = .ok (.iload_n 2, 1) := by decide +kernel
theorem dX12_manAt_3 : decode cX12_manAt 3 = .ok (.aload_n 0, 1) := by decide +kernel
theorem dX12_manAt_4 : decode cX12_manAt 4 = .ok (.getfield 287, 3) := by decide +kernel
theorem dX12_manAt_7 : decode cX12_manAt 7 = .ok (.if_icmp .ge 21, 3) := by decide +kernel
theorem dX12_manAt_10 : decode cX12_manAt 10 = .ok (.aload_n 0, 1) := by decide +kernel
theorem dX12_manAt_11 : decode cX12_manAt 11 = .ok (.getfield 44, 3) := by decide +kernel
theorem dX12_manAt_14 : decode cX12_manAt 14 = .ok (.iload_n 2, 1) := by decide +kernel
theorem dX12_manAt_15 : decode cX12_manAt 15 = .ok (.iaload, 1) := by decide +kernel
theorem dX12_manAt_16 : decode cX12_manAt 16 = .ok (.iload_n 1, 1) := by decide +kernel
theorem dX12_manAt_17 : decode cX12_manAt 17 = .ok (.if_icmp .ne 5, 3) := by decide +kernel
theorem dX12_manAt_20 : decode cX12_manAt 20 = .ok (.iload_n 2, 1) := by decide +kernel
theorem dX12_manAt_21 : decode cX12_manAt 21 = .ok (.ireturn, 1) := by decide +kernel
theorem dX12_manAt_22 : decode cX12_manAt 22 = .ok (.iinc 2 1, 3) := by decide +kernel
theorem dX12_manAt_25 : decode cX12_manAt 25 = .ok (.goto (-23), 3) := by decide +kernel
theorem dX12_manAt_28 : decode cX12_manAt 28 = .ok (.iconst (-1), 1) := by decide +kernel
theorem dX12_manAt_29 : decode cX12_manAt 29 = .ok (.ireturn, 1) := by decide +kernel
theorem dX12_field_0 : decode cX12_field 0 = .ok (.aload_n 0, 1) := by decide +kernel
theorem dX12_field_1 : decode cX12_field 1 = .ok (.iconst 0, 1) := by decide +kernel
theorem dX12_field_2 : decode cX12_field 2 = .ok (.putfield 157, 3) := by decide +kernel
theorem dX12_field_5 : decode cX12_field 5 = .ok (.aload_n 0, 1) := by decide +kernel
theorem dX12_field_6 : decode cX12_field 6 = .ok (.iload_n 1, 1) := by decide +kernel
theorem dX12_field_7 : decode cX12_field 7 = .ok (.invokevirtual 302, 3) := by decide +kernel
theorem dX12_field_10 : decode cX12_field 10 = .ok (.ifCond .eq 17, 3) := by decide +kernel
theorem dX12_field_13 : decode cX12_field 13 = .ok (.iload_n 2, 1) := by decide +kernel
theorem dX12_field_14 : decode cX12_field 14 = .ok (.iconst 0, 1) := by decide +kernel
theorem dX12_field_15 : decode cX12_field 15 = .ok (.aload_n 0, 1) := by decide +kernel
theorem dX12_field_16 : decode cX12_field 16 = .ok (.getfield 284, 3) := by decide +kernel
theorem dX12_field_19 : decode cX12_field 19 = .ok (.iconst 1, 1) := by decide +kernel
theorem dX12_field_20 : decode cX12_field 20 = .ok (.isub, 1) := by decide +kernel
theorem dX12_field_21 : decode cX12_field 21 = .ok (.invokestatic 165, 3) := by decide +kernel
theorem dX12_field_24 : decode cX12_field 24 = .ok (.ifCond .ne 5, 3) := by decide +kernel
theorem dX12_field_27 : decode cX12_field 27 = .ok (.iconst (-1), 1) := by decide +kernel
theorem dX12_field_28 : decode cX12_field 28 = .ok (.ireturn, 1) := by decide +kernel
theorem dX12_field_29 : decode cX12_field 29 = .ok (.aload_n 0, 1) := by decide +kernel
theorem dX12_field_30 : decode cX12_field 30 = .ok (.iload_n 2, 1) := by decide +kernel
theorem dX12_field_31 : decode cX12_field 31 = .ok (.invokevirtual 309, 3) := by decide +kernel
theorem dX12_field_34 : decode cX12_field 34 = .ok (.istore_n 3, 1) := by decide +kernel
theorem dX12_field_35 : decode cX12_field 35 = .ok (.iload_n 3, 1) := by decide +kernel
theorem dX12_field_36 : decode cX12_field 36 = .ok (.iconst (-1), 1) := by decide +kernel
theorem dX12_field_37 : decode cX12_field 37 = .ok (.if_icmp .eq 10, 3) := by decide +kernel
theorem dX12_field_40 : decode cX12_field 40 = .ok (.bipush 10, 2) := by decide +kernel
theorem dX12_field_42 : decode cX12_field 42 = .ok (.iload_n 3, 1) := by decide +kernel
theorem dX12_field_43 : decode cX12_field 43 = .ok (.iadd, 1) := by decide +kernel
theorem dX12_field_44 : decode cX12_field 44 = .ok (.goto 34, 3) := by decide +kernel
theorem dX12_field_47 : decode cX12_field 47 = .ok (.aload_n 0, 1) := by decide +kernel
theorem dX12_field_48 : decode cX12_field 48 = .ok (.getfield 290, 3) := by decide +kernel
theorem dX12_field_51 : decode cX12_field 51 = .ok (.iload_n 2, 1) := by decide +kernel
theorem dX12_field_52 : decode cX12_field 52 = .ok (.invokestatic 299, 3) := by decide +kernel
theorem dX12_field_55 : decode cX12_field 55 = .ok (.ifCond .eq 7, 3) := by decide +kernel
theorem dX12_field_58 : decode cX12_field 58 = .ok (.iconst 1, 1) := by decide +kernel
theorem dX12_field_59 : decode cX12_field 59 = .ok (.goto 19, 3) := by decide +kernel
theorem dX12_field_62 : decode cX12_field 62 = .ok (.aload_n 0, 1) := by decide +kernel
theorem dX12_field_63 : decode cX12_field 63 = .ok (.getfield 293, 3) := by decide +kernel
theorem dX12_field_66 : decode cX12_field 66 = .ok (.iload_n 2, 1) := by decide +kernel
theorem dX12_field_67 : decode cX12_field 67 = .ok (.invokestatic 299, 3) := by decide +kernel
theorem dX12_field_70 : decode cX12_field 70 = .ok (.ifCond .eq 7, 3) := by decide +kernel
theorem dX12_field_73 : decode cX12_field 73 = .ok (.iconst 2, 1) := by decide +kernel
theorem dX12_field_74 : decode cX12_field 74 = .ok (.goto 4, 3) := by decide +kernel
theorem dX12_field_77 : decode cX12_field 77 = .ok (.iconst 0, 1) := by decide +kernel
theorem dX12_field_78 : decode cX12_field 78 = .ok (.ireturn, 1) := by decide +kernel
theorem dX12_man_0 : decode cX12_man 0 = .ok (.aload_n 0, 1) := by decide +kernel
theorem dX12_man_1 : decode cX12_man 1 = .ok (.iconst 0, 1) := by decide +kernel
theorem dX12_man_2 : decode cX12_man 2 = .ok (.putfield 157, 3) := by decide +kernel
theorem dX12_man_5 : decode cX12_man 5 = .ok (.aload_n 0, 1) := by decide +kernel
theorem dX12_man_6 : decode cX12_man 6 = .ok (.iload_n 1, 1) := by decide +kernel
theorem dX12_man_7 : decode cX12_man 7 = .ok (.invokevirtual 302, 3) := by decide +kernel
theorem dX12_man_10 : decode cX12_man 10 = .ok (.ifCond .eq 48, 3) := by decide +kernel
theorem dX12_man_13 : decode cX12_man 13 = .ok (.iload_n 2, 1) := by decide +kernel
theorem dX12_man_14 : decode cX12_man 14 = .ok (.iconst 0, 1) := by decide +kernel
theorem dX12_man_15 : decode cX12_man 15 = .ok (.aload_n 0, 1) := by decide +kernel
theorem dX12_man_16 : decode cX12_man 16 = .ok (.getfield 287, 3) := by decide +kernel
theorem dX12_man_19 : decode cX12_man 19 = .ok (.iconst 1, 1) := by decide +kernel
theorem dX12_man_20 : decode cX12_man 20 = .ok (.isub, 1) := by decide +kernel
theorem dX12_man_21 : decode cX12_man 21 = .ok (.invokestatic 165, 3) := by decide +kernel
theorem dX12_man_24 : decode cX12_man 24 = .ok (.ifCond .eq 34, 3) := by decide +kernel
theorem dX12_man_27 : decode cX12_man 27 = .ok (.iload_n 3, 1) := by decide +kernel
theorem dX12_man_28 : decode cX12_man 28 = .ok (.iconst 0, 1) := by decide +kernel
theorem dX12_man_29 : decode cX12_man 29 = .ok (.iconst 1, 1) := by decide +kernel
theorem dX12_man_30 : decode cX12_man 30 = .ok (.invokestatic 165, 3) := by decide +kernel
theorem dX12_man_33 : decode cX12_man 33 = .ok (.ifCond .eq 25, 3) := by decide +kernel
theorem dX12_man_36 : decode cX12_man 36 = .ok (.iload_n 3, 1) := by decide +kernel
theorem dX12_man_37 : decode cX12_man 37 = .ok (.ifCond .ne 12, 3) := by decide +kernel
theorem dX12_man_40 : decode cX12_man 40 = .ok (.aload_n 0, 1) := by decide +kernel
theorem dX12_man_41 : decode cX12_man 41 = .ok (.getfield 41, 3) := by decide +kernel
theorem dX12_man_44 : decode cX12_man 44 = .ok (.iload_n 2, 1) := by decide +kernel
theorem dX12_man_45 : decode cX12_man 45 = .ok (.iaload, 1) := by decide +kernel
theorem dX12_man_46 : decode cX12_man 46 = .ok (.goto 13, 3) := by decide +kernel
theorem dX12_man_49 : decode cX12_man 49 = .ok (.aload_n 0, 1) := by decide +kernel
theorem dX12_man_50 : decode cX12_man 50 = .ok (.getfield 44, 3) := by decide +kernel
theorem dX12_man_53 : decode cX12_man 53 = .ok (.iload_n 2, 1) := by decide +kernel
theorem dX12_man_54 : decode cX12_man 54 = .ok (.iaload, 1) := by decide +kernel
theorem dX12_man_55 : decode cX12_man 55 = .ok (.goto 4, 3) := by decide +kernel
theorem dX12_man_58 : decode cX12_man 58 = .ok (.iconst (-1), 1) := by decide +kernel
theorem dX12_man_59 : decode cX12_man 59 = .ok (.ireturn, 1) := by decide +kernel
theorem dX12_rule_0 : decode cX12_rule 0 = .ok (.aload_n 0, 1) := by decide +kernel
theorem dX12_rule_1 : decode cX12_rule 1 = .ok (.iconst 0, 1) := by decide +kernel
theorem dX12_rule_2 : decode cX12_rule 2 = .ok (.putfield 157, 3) := by decide +kernel
theorem dX12_rule_5 : decode cX12_rule 5 = .ok (.aload_n 0, 1) := by decide +kernel
theorem dX12_rule_6 : decode cX12_rule 6 = .ok (.iconst 1, 1) := by decide +kernel
theorem dX12_rule_7 : decode cX12_rule 7 = .ok (.iload_n 1, 1) := by decide +kernel
theorem dX12_rule_8 : decode cX12_rule 8 = .ok (.invokevirtual 268, 3) := by decide +kernel
theorem dX12_rule_11 : decode cX12_rule 11 = .ok (.ifCond .ne 6, 3) := by decide +kernel
theorem dX12_rule_14 : decode cX12_rule 14 = .ok (.bipush (-2), 2) := by decide +kernel
theorem dX12_rule_16 : decode cX12_rule 16 = .ok (.ireturn, 1) := by decide +kernel
theorem dX12_rule_17 : decode cX12_rule 17 = .ok (.aload_n 0, 1) := by decide +kernel
theorem dX12_rule_18 : decode cX12_rule 18 = .ok (.getfield 29, 3) := by decide +kernel
theorem dX12_rule_21 : decode cX12_rule 21 = .ok (.bipush 10, 2) := by decide +kernel
theorem dX12_rule_23 : decode cX12_rule 23 = .ok (.iload_n 1, 1) := by decide +kernel
theorem dX12_rule_24 : decode cX12_rule 24 = .ok (.imul, 1) := by decide +kernel
theorem dX12_rule_25 : decode cX12_rule 25 = .ok (.iaload, 1) := by decide +kernel
theorem dX12_rule_26 : decode cX12_rule 26 = .ok (.istore_n 3, 1) := by decide +kernel
theorem dX12_rule_27 : decode cX12_rule 27 = .ok (.iload_n 2, 1) := by decide +kernel
theorem dX12_rule_28 : decode cX12_rule 28 = .ok (.iconst (-1), 1) := by decide +kernel
theorem dX12_rule_29 : decode cX12_rule 29 = .ok (.if_icmp .ne 7, 3) := by decide +kernel
theorem dX12_rule_32 : decode cX12_rule 32 = .ok (.iload_n 3, 1) := by decide +kernel
theorem dX12_rule_33 : decode cX12_rule 33 = .ok (.goto 32, 3) := by decide +kernel
theorem dX12_rule_36 : decode cX12_rule 36 = .ok (.iload_n 2, 1) := by decide +kernel
theorem dX12_rule_37 : decode cX12_rule 37 = .ok (.iconst 0, 1) := by decide +kernel
theorem dX12_rule_38 : decode cX12_rule 38 = .ok (.iload_n 3, 1) := by decide +kernel
theorem dX12_rule_39 : decode cX12_rule 39 = .ok (.iconst 1, 1) := by decide +kernel
theorem dX12_rule_40 : decode cX12_rule 40 = .ok (.isub, 1) := by decide +kernel
theorem dX12_rule_41 : decode cX12_rule 41 = .ok (.invokestatic 165, 3) := by decide +kernel
theorem dX12_rule_44 : decode cX12_rule 44 = .ok (.ifCond .eq 19, 3) := by decide +kernel
theorem dX12_rule_47 : decode cX12_rule 47 = .ok (.aload_n 0, 1) := by decide +kernel
theorem dX12_rule_48 : decode cX12_rule 48 = .ok (.getfield 29, 3) := by decide +kernel
theorem dX12_rule_51 : decode cX12_rule 51 = .ok (.bipush 10, 2) := by decide +kernel
theorem dX12_rule_53 : decode cX12_rule 53 = .ok (.iload_n 1, 1) := by decide +kernel
theorem dX12_rule_54 : decode cX12_rule 54 = .ok (.imul, 1) := by decide +kernel
theorem dX12_rule_55 : decode cX12_rule 55 = .ok (.iconst 1, 1) := by decide +kernel
theorem dX12_rule_56 : decode cX12_rule 56 = .ok (.iadd, 1) := by decide +kernel
theorem dX12_rule_57 : decode cX12_rule 57 = .ok (.iload_n 2, 1) := by decide +kernel
theorem dX12_rule_58 : decode cX12_rule 58 = .ok (.iadd, 1) := by decide +kernel
theorem dX12_rule_59 : decode cX12_rule 59 = .ok (.iaload, 1) := by decide +kernel
theorem dX12_rule_60 : decode cX12_rule 60 = .ok (.goto 5, 3) := by decide +kernel
theorem dX12_rule_63 : decode cX12_rule 63 = .ok (.bipush (-2), 2) := by decide +kernel
theorem dX12_rule_65 : decode cX12_rule 65 = .ok (.ireturn, 1) := by decide +kernel
theorem dX12_look_0 : decode cX12_look 0 = .ok (.aload_n 0, 1) := by decide +kernel
theorem dX12_look_1 : decode cX12_look 1 = .ok (.lconst 0, 1) := by decide +kernel
theorem dX12_look_2 : decode cX12_look 2 = .ok (.putfield 312, 3) := by decide +kernel
theorem dX12_look_5 : decode cX12_look 5 = .ok (.aload_n 0, 1) := by decide +kernel
theorem dX12_look_6 : decode cX12_look 6 = .ok (.lconst 0, 1) := by decide +kernel
theorem dX12_look_7 : decode cX12_look 7 = .ok (.putfield 315, 3) := by decide +kernel
theorem dX12_look_10 : decode cX12_look 10 = .ok (.iconst 0, 1) := by decide +kernel
theorem dX12_look_11 : decode cX12_look 11 = .ok (.istore_n 2, 1) := by decide +kernel
theorem dX12_look_12 : decode cX12_look 12 = .ok (.iload_n 2, 1) := by decide +kernel
theorem dX12_look_13 : decode cX12_look 13 = .ok (.aload_n 0, 1) := by decide +kernel
theorem dX12_look_14 : decode cX12_look 14 = .ok (.getfield 287, 3) := by decide +kernel
theorem dX12_look_17 : decode cX12_look 17 = .ok (.if_icmp .ge 96, 3) := by decide +kernel
theorem dX12_look_20 : decode cX12_look 20 = .ok (.iload_n 2, 1) := by decide +kernel
theorem dX12_look_21 : decode cX12_look 21 = .ok (.iload_n 1, 1) := by decide +kernel
theorem dX12_look_22 : decode cX12_look 22 = .ok (.if_icmp .eq 85, 3) := by decide +kernel
theorem dX12_look_25 : decode cX12_look 25 = .ok (.aload_n 0, 1) := by decide +kernel
theorem dX12_look_26 : decode cX12_look 26 = .ok (.getfield 44, 3) := by decide +kernel
theorem dX12_look_29 : decode cX12_look 29 = .ok (.iload_n 2, 1) := by decide +kernel
theorem dX12_look_30 : decode cX12_look 30 = .ok (.iaload, 1) := by decide +kernel
theorem dX12_look_31 : decode cX12_look 31 = .ok (.iconst (-1), 1) := by decide +kernel
theorem dX12_look_32 : decode cX12_look 32 = .ok (.if_icmp .eq 75, 3) := by decide +kernel
theorem dX12_look_35 : decode cX12_look 35 = .ok (.aload_n 0, 1) := by decide +kernel
theorem dX12_look_36 : decode cX12_look 36 = .ok (.dup, 1) := by decide +kernel
theorem dX12_look_37 : decode cX12_look 37 = .ok (.getfield 312, 3) := by decide +kernel
theorem dX12_look_40 : decode cX12_look 40 = .ok (.aload_n 0, 1) := by decide +kernel
theorem dX12_look_41 : decode cX12_look 41 = .ok (.getfield 41, 3) := by decide +kernel
theorem dX12_look_44 : decode cX12_look 44 = .ok (.iload_n 2, 1) := by decide +kernel
theorem dX12_look_45 : decode cX12_look 45 = .ok (.iaload, 1) := by decide +kernel
theorem dX12_look_46 : decode cX12_look 46 = .ok (.aload_n 0, 1) := by decide +kernel
theorem dX12_look_47 : decode cX12_look 47 = .ok (.getfield 41, 3) := by decide +kernel
theorem dX12_look_50 : decode cX12_look 50 = .ok (.iload_n 1, 1) := by decide +kernel
theorem dX12_look_51 : decode cX12_look 51 = .ok (.iaload, 1) := by decide +kernel
theorem dX12_look_52 : decode cX12_look 52 = .ok (.if_icmp .ne 14, 3) := by decide +kernel
theorem dX12_look_55 : decode cX12_look 55 = .ok (.lconst 1, 1) := by decide +kernel
theorem dX12_look_56 : decode cX12_look 56 = .ok (.aload_n 0, 1) := by decide +kernel
theorem dX12_look_57 : decode cX12_look 57 = .ok (.getfield 44, 3) := by decide +kernel
theorem dX12_look_60 : decode cX12_look 60 = .ok (.iload_n 2, 1) := by decide +kernel
theorem dX12_look_61 : decode cX12_look 61 = .ok (.iaload, 1) := by decide +kernel
theorem dX12_look_62 : decode cX12_look 62 = .ok (.lshl, 1) := by decide +kernel
theorem dX12_look_63 : decode cX12_look 63 = .ok (.goto 4, 3) := by decide +kernel
theorem dX12_look_66 : decode cX12_look 66 = .ok (.lconst 0, 1) := by decide +kernel
theorem dX12_look_67 : decode cX12_look 67 = .ok (.lor, 1) := by decide +kernel
theorem dX12_look_68 : decode cX12_look 68 = .ok (.putfield 312, 3) := by decide +kernel
theorem dX12_look_71 : decode cX12_look 71 = .ok (.aload_n 0, 1) := by decide +kernel
theorem dX12_look_72 : decode cX12_look 72 = .ok (.dup, 1) := by decide +kernel
theorem dX12_look_73 : decode cX12_look 73 = .ok (.getfield 315, 3) := by decide +kernel
theorem dX12_look_76 : decode cX12_look 76 = .ok (.aload_n 0, 1) := by decide +kernel
theorem dX12_look_77 : decode cX12_look 77 = .ok (.getfield 41, 3) := by decide +kernel
theorem dX12_look_80 : decode cX12_look 80 = .ok (.iload_n 2, 1) := by decide +kernel
theorem dX12_look_81 : decode cX12_look 81 = .ok (.iaload, 1) := by decide +kernel
theorem dX12_look_82 : decode cX12_look 82 = .ok (.aload_n 0, 1) := by decide +kernel
theorem dX12_look_83 : decode cX12_look 83 = .ok (.getfield 41, 3) := by decide +kernel
theorem dX12_look_86 : decode cX12_look 86 = .ok (.iload_n 1, 1) := by decide +kernel
theorem dX12_look_87 : decode cX12_look 87 = .ok (.iaload, 1) := by decide +kernel
theorem dX12_look_88 : decode cX12_look 88 = .ok (.if_icmp .ne 7, 3) := by decide +kernel
theorem dX12_look_91 : decode cX12_look 91 = .ok (.lconst 0, 1) := by decide +kernel
theorem dX12_look_92 : decode cX12_look 92 = .ok (.goto 11, 3) := by decide +kernel
theorem dX12_look_95 : decode cX12_look 95 = .ok (.lconst 1, 1) := by decide +kernel
theorem dX12_look_96 : decode cX12_look 96 = .ok (.aload_n 0, 1) := by decide +kernel
theorem dX12_look_97 : decode cX12_look 97 = .ok (.getfield 44, 3) := by decide +kernel
theorem dX12_look_100 : decode cX12_look 100 = .ok (.iload_n 2, 1) := by decide +kernel
theorem dX12_look_101 : decode cX12_look 101 = .ok (.iaload, 1) := by decide +kernel
theorem dX12_look_102 : decode cX12_look 102 = .ok (.lshl, 1) := by decide +kernel
theorem dX12_look_103 : decode cX12_look 103 = .ok (.lor, 1) := by decide +kernel
theorem dX12_look_104 : decode cX12_look 104 = .ok (.putfield 315, 3) := by decide +kernel
theorem dX12_look_107 : decode cX12_look 107 = .ok (.iinc 2 1, 3) := by decide +kernel
theorem dX12_look_110 : decode cX12_look 110 = .ok (.goto (-98), 3) := by decide +kernel
theorem dX12_look_113 : decode cX12_look 113 = .ok (.return_, 1) := by decide +kernel
theorem dX12_next_0 : decode cX12_next 0 = .ok (.iload_n 1, 1) := by decide +kernel
theorem dX12_next_1 : decode cX12_next 1 = .ok (.aload_n 0, 1) := by decide +kernel
theorem dX12_next_2 : decode cX12_next 2 = .ok (.getfield 278, 3) := by decide +kernel
theorem dX12_next_5 : decode cX12_next 5 = .ok (.irem, 1) := by decide +kernel
theorem dX12_next_6 : decode cX12_next 6 = .ok (.iload_n 2, 1) := by decide +kernel
theorem dX12_next_7 : decode cX12_next 7 = .ok (.iconst 1, 1) := by decide +kernel
theorem dX12_next_8 : decode cX12_next 8 = .ok (.if_icmp .ne 7, 3) := by decide +kernel
theorem dX12_next_11 : decode cX12_next 11 = .ok (.iconst 1, 1) := by decide +kernel
theorem dX12_next_12 : decode cX12_next 12 = .ok (.goto 13, 3) := by decide +kernel
theorem dX12_next_15 : decode cX12_next 15 = .ok (.iload_n 2, 1) := by decide +kernel
theorem dX12_next_16 : decode cX12_next 16 = .ok (.iconst 3, 1) := by decide +kernel
theorem dX12_next_17 : decode cX12_next 17 = .ok (.if_icmp .ne 7, 3) := by decide +kernel
theorem dX12_next_20 : decode cX12_next 20 = .ok (.iconst (-1), 1) := by decide +kernel
theorem dX12_next_21 : decode cX12_next 21 = .ok (.goto 4, 3) := by decide +kernel
theorem dX12_next_24 : decode cX12_next 24 = .ok (.iconst 0, 1) := by decide +kernel
theorem dX12_next_25 : decode cX12_next 25 = .ok (.iadd, 1) := by decide +kernel
theorem dX12_next_26 : decode cX12_next 26 = .ok (.istore_n 3, 1) := by decide +kernel
theorem dX12_next_27 : decode cX12_next 27 = .ok (.iload_n 1, 1) := by decide +kernel
theorem dX12_next_28 : decode cX12_next 28 = .ok (.aload_n 0, 1) := by decide +kernel
theorem dX12_next_29 : decode cX12_next 29 = .ok (.getfield 278, 3) := by decide +kernel
theorem dX12_next_32 : decode cX12_next 32 = .ok (.idiv, 1) := by decide +kernel
theorem dX12_next_33 : decode cX12_next 33 = .ok (.iload_n 2, 1) := by decide +kernel
theorem dX12_next_34 : decode cX12_next 34 = .ok (.iconst 2, 1) := by decide +kernel
theorem dX12_next_35 : decode cX12_next 35 = .ok (.if_icmp .ne 7, 3) := by decide +kernel
theorem dX12_next_38 : decode cX12_next 38 = .ok (.iconst 1, 1) := by decide +kernel
theorem dX12_next_39 : decode cX12_next 39 = .ok (.goto 12, 3) := by decide +kernel
theorem dX12_next_42 : decode cX12_next 42 = .ok (.iload_n 2, 1) := by decide +kernel
theorem dX12_next_43 : decode cX12_next 43 = .ok (.ifCond .ne 7, 3) := by decide +kernel
theorem dX12_next_46 : decode cX12_next 46 = .ok (.iconst (-1), 1) := by decide +kernel
theorem dX12_next_47 : decode cX12_next 47 = .ok (.goto 4, 3) := by decide +kernel
theorem dX12_next_50 : decode cX12_next 50 = .ok (.iconst 0, 1) := by decide +kernel
theorem dX12_next_51 : decode cX12_next 51 = .ok (.iadd, 1) := by decide +kernel
theorem dX12_next_52 : decode cX12_next 52 = .ok (.istore 4, 2) := by decide +kernel
theorem dX12_next_54 : decode cX12_next 54 = .ok (.iload_n 3, 1) := by decide +kernel
theorem dX12_next_55 : decode cX12_next 55 = .ok (.iconst 0, 1) := by decide +kernel
theorem dX12_next_56 : decode cX12_next 56 = .ok (.aload_n 0, 1) := by decide +kernel
theorem dX12_next_57 : decode cX12_next 57 = .ok (.getfield 278, 3) := by decide +kernel
theorem dX12_next_60 : decode cX12_next 60 = .ok (.iconst 1, 1) := by decide +kernel
theorem dX12_next_61 : decode cX12_next 61 = .ok (.isub, 1) := by decide +kernel
theorem dX12_next_62 : decode cX12_next 62 = .ok (.invokestatic 165, 3) := by decide +kernel
theorem dX12_next_65 : decode cX12_next 65 = .ok (.ifCond .eq 30, 3) := by decide +kernel
theorem dX12_next_68 : decode cX12_next 68 = .ok (.iload 4, 2) := by decide +kernel
theorem dX12_next_70 : decode cX12_next 70 = .ok (.iconst 0, 1) := by decide +kernel
theorem dX12_next_71 : decode cX12_next 71 = .ok (.aload_n 0, 1) := by decide +kernel
theorem dX12_next_72 : decode cX12_next 72 = .ok (.getfield 281, 3) := by decide +kernel
theorem dX12_next_75 : decode cX12_next 75 = .ok (.iconst 1, 1) := by decide +kernel
theorem dX12_next_76 : decode cX12_next 76 = .ok (.isub, 1) := by decide +kernel
theorem dX12_next_77 : decode cX12_next 77 = .ok (.invokestatic 165, 3) := by decide +kernel
theorem dX12_next_80 : decode cX12_next 80 = .ok (.ifCond .eq 15, 3) := by decide +kernel
theorem dX12_next_83 : decode cX12_next 83 = .ok (.iload 4, 2) := by decide +kernel
theorem dX12_next_85 : decode cX12_next 85 = .ok (.aload_n 0, 1) := by decide +kernel
theorem dX12_next_86 : decode cX12_next 86 = .ok (.getfield 278, 3) := by decide +kernel
theorem dX12_next_89 : decode cX12_next 89 = .ok (.imul, 1) := by decide +kernel
theorem dX12_next_90 : decode cX12_next 90 = .ok (.iload_n 3, 1) := by decide +kernel
theorem dX12_next_91 : decode cX12_next 91 = .ok (.iadd, 1) := by decide +kernel
theorem dX12_next_92 : decode cX12_next 92 = .ok (.goto 4, 3) := by decide +kernel
theorem dX12_next_95 : decode cX12_next 95 = .ok (.iconst (-1), 1) := by decide +kernel
theorem dX12_next_96 : decode cX12_next 96 = .ok (.ireturn, 1) := by decide +kernel
theorem dX12_step_0 : decode cX12_step 0 = .ok (.aload_n 0, 1) := by decide +kernel
theorem dX12_step_1 : decode cX12_step 1 = .ok (.iload_n 1, 1) := by decide +kernel
theorem dX12_step_2 : decode cX12_step 2 = .ok (.iload_n 2, 1) := by decide +kernel
theorem dX12_step_3 : decode cX12_step 3 = .ok (.invokevirtual 318, 3) := by decide +kernel
theorem dX12_step_6 : decode cX12_step 6 = .ok (.istore_n 3, 1) := by decide +kernel
theorem dX12_step_7 : decode cX12_step 7 = .ok (.iload_n 3, 1) := by decide +kernel
theorem dX12_step_8 : decode cX12_step 8 = .ok (.iconst (-1), 1) := by decide +kernel
theorem dX12_step_9 : decode cX12_step 9 = .ok (.if_icmp .eq 19, 3) := by decide +kernel
theorem dX12_step_12 : decode cX12_step 12 = .ok (.aload_n 0, 1) := by decide +kernel
theorem dX12_step_13 : decode cX12_step 13 = .ok (.getfield 290, 3) := by decide +kernel
theorem dX12_step_16 : decode cX12_step 16 = .ok (.aload_n 0, 1) := by decide +kernel
theorem dX12_step_17 : decode cX12_step 17 = .ok (.getfield 312, 3) := by decide +kernel
theorem dX12_step_20 : decode cX12_step 20 = .ok (.lor, 1) := by decide +kernel
theorem dX12_step_21 : decode cX12_step 21 = .ok (.iload_n 3, 1) := by decide +kernel
theorem dX12_step_22 : decode cX12_step 22 = .ok (.invokestatic 299, 3) := by decide +kernel
theorem dX12_step_25 : decode cX12_step 25 = .ok (.ifCond .eq 7, 3) := by decide +kernel
theorem dX12_step_28 : decode cX12_step 28 = .ok (.iconst (-1), 1) := by decide +kernel
theorem dX12_step_29 : decode cX12_step 29 = .ok (.goto 4, 3) := by decide +kernel
theorem dX12_step_32 : decode cX12_step 32 = .ok (.iload_n 3, 1) := by decide +kernel
theorem dX12_step_33 : decode cX12_step 33 = .ok (.ireturn, 1) := by decide +kernel
theorem dX12_endsThere_0 : decode cX12_endsThere 0 = .ok (.aload_n 0, 1) := by decide +kernel
theorem dX12_endsThere_1 : decode cX12_endsThere 1 = .ok (.getfield 315, 3) := by decide +kernel
theorem dX12_endsThere_4 : decode cX12_endsThere 4 = .ok (.aload_n 0, 1) := by decide +kernel
theorem dX12_endsThere_5 : decode cX12_endsThere 5 = .ok (.getfield 293, 3) := by decide +kernel
theorem dX12_endsThere_8 : decode cX12_endsThere 8 = .ok (.lor, 1) := by decide +kernel
theorem dX12_endsThere_9 : decode cX12_endsThere 9 = .ok (.iload_n 1, 1) := by decide +kernel
theorem dX12_endsThere_10 : decode cX12_endsThere 10 = .ok (.invokestatic 299, 3) := by decide +kernel
theorem dX12_endsThere_13 : decode cX12_endsThere 13 = .ok (.ireturn, 1) := by decide +kernel
theorem dX12_isBeside_0 : decode cX12_isBeside 0 = .ok (.iconst 0, 1) := by decide +kernel
theorem dX12_isBeside_1 : decode cX12_isBeside 1 = .ok (.istore_n 2, 1) := by decide +kernel
theorem dX12_isBeside_2 : decode cX12_isBeside 2 = .ok (.iload_n 2, 1) := by decide +kernel
theorem dX12_isBeside_3 : decode cX12_isBeside 3 = .ok (.iconst 4, 1) := by decide +kernel
theorem dX12_isBeside_4 : decode cX12_isBeside 4 = .ok (.if_icmp .ge 34, 3) := by decide +kernel
theorem dX12_isBeside_7 : decode cX12_isBeside 7 = .ok (.aload_n 0, 1) := by decide +kernel
theorem dX12_isBeside_8 : decode cX12_isBeside 8 = .ok (.iload_n 1, 1) := by decide +kernel
theorem dX12_isBeside_9 : decode cX12_isBeside 9 = .ok (.iload_n 2, 1) := by decide +kernel
theorem dX12_isBeside_10 : decode cX12_isBeside 10 = .ok (.invokevirtual 318, 3) := by decide +kernel
theorem dX12_isBeside_13 : decode cX12_isBeside 13 = .ok (.istore_n 3, 1) := by decide +kernel
theorem dX12_isBeside_14 : decode cX12_isBeside 14 = .ok (.iload_n 3, 1) := by decide +kernel
theorem dX12_isBeside_15 : decode cX12_isBeside 15 = .ok (.iconst (-1), 1) := by decide +kernel
theorem dX12_isBeside_16 : decode cX12_isBeside 16 = .ok (.if_icmp .eq 16, 3) := by decide +kernel
theorem dX12_isBeside_19 : decode cX12_isBeside 19 = .ok (.aload_n 0, 1) := by decide +kernel
theorem dX12_isBeside_20 : decode cX12_isBeside 20 = .ok (.getfield 315, 3) := by decide +kernel
theorem dX12_isBeside_23 : decode cX12_isBeside 23 = .ok (.iload_n 3, 1) := by decide +kernel
theorem dX12_isBeside_24 : decode cX12_isBeside 24 = .ok (.invokestatic 299, 3) := by decide +kernel
theorem dX12_isBeside_27 : decode cX12_isBeside 27 = .ok (.ifCond .eq 5, 3) := by decide +kernel
theorem dX12_isBeside_30 : decode cX12_isBeside 30 = .ok (.iconst 1, 1) := by decide +kernel
theorem dX12_isBeside_31 : decode cX12_isBeside 31 = .ok (.ireturn, 1) := by decide +kernel
theorem dX12_isBeside_32 : decode cX12_isBeside 32 = .ok (.iinc 2 1, 3) := by decide +kernel
theorem dX12_isBeside_35 : decode cX12_isBeside 35 = .ok (.goto (-33), 3) := by decide +kernel
theorem dX12_isBeside_38 : decode cX12_isBeside 38 = .ok (.iconst 0, 1) := by decide +kernel
theorem dX12_isBeside_39 : decode cX12_isBeside 39 = .ok (.ireturn, 1) := by decide +kernel
theorem dX12_stepsTo_0 : decode cX12_stepsTo 0 = .ok (.aload_n 0, 1) := by decide +kernel
theorem dX12_stepsTo_1 : decode cX12_stepsTo 1 = .ok (.iload_n 1, 1) := by decide +kernel
theorem dX12_stepsTo_2 : decode cX12_stepsTo 2 = .ok (.iload_n 2, 1) := by decide +kernel
theorem dX12_stepsTo_3 : decode cX12_stepsTo 3 = .ok (.invokevirtual 322, 3) := by decide +kernel
theorem dX12_stepsTo_6 : decode cX12_stepsTo 6 = .ok (.istore 4, 2) := by decide +kernel
theorem dX12_stepsTo_8 : decode cX12_stepsTo 8 = .ok (.iload 4, 2) := by decide +kernel
theorem dX12_stepsTo_10 : decode cX12_stepsTo 10 = .ok (.iconst (-1), 1) := by decide +kernel
theorem dX12_stepsTo_11 : decode cX12_stepsTo 11 = .ok (.if_icmp .ne 4, 3) := by decide +kernel
theorem dX12_stepsTo_14 : decode cX12_stepsTo 14 = .ok (.return_, 1) := by decide +kernel
theorem dX12_stepsTo_15 : decode cX12_stepsTo 15 = .ok (.aload_n 0, 1) := by decide +kernel
theorem dX12_stepsTo_16 : decode cX12_stepsTo 16 = .ok (.iload 4, 2) := by decide +kernel
theorem dX12_stepsTo_18 : decode cX12_stepsTo 18 = .ok (.invokevirtual 325, 3) := by decide +kernel
theorem dX12_stepsTo_21 : decode cX12_stepsTo 21 = .ok (.ifCond .eq 19, 3) := by decide +kernel
theorem dX12_stepsTo_24 : decode cX12_stepsTo 24 = .ok (.aload_n 0, 1) := by decide +kernel
theorem dX12_stepsTo_25 : decode cX12_stepsTo 25 = .ok (.dup, 1) := by decide +kernel
theorem dX12_stepsTo_26 : decode cX12_stepsTo 26 = .ok (.getfield 328, 3) := by decide +kernel
theorem dX12_stepsTo_29 : decode cX12_stepsTo 29 = .ok (.lconst 1, 1) := by decide +kernel
theorem dX12_stepsTo_30 : decode cX12_stepsTo 30 = .ok (.iload 4, 2) := by decide +kernel
theorem dX12_stepsTo_32 : decode cX12_stepsTo 32 = .ok (.lshl, 1) := by decide +kernel
theorem dX12_stepsTo_33 : decode cX12_stepsTo 33 = .ok (.lor, 1) := by decide +kernel
theorem dX12_stepsTo_34 : decode cX12_stepsTo 34 = .ok (.putfield 328, 3) := by decide +kernel
theorem dX12_stepsTo_37 : decode cX12_stepsTo 37 = .ok (.goto 13, 3) := by decide +kernel
theorem dX12_stepsTo_40 : decode cX12_stepsTo 40 = .ok (.aload_n 3, 1) := by decide +kernel
theorem dX12_stepsTo_41 : decode cX12_stepsTo 41 = .ok (.iload_n 2, 1) := by decide +kernel
theorem dX12_stepsTo_42 : decode cX12_stepsTo 42 = .ok (.dup2, 1) := by decide +kernel
theorem dX12_stepsTo_43 : decode cX12_stepsTo 43 = .ok (.laload, 1) := by decide +kernel
theorem dX12_stepsTo_44 : decode cX12_stepsTo 44 = .ok (.lconst 1, 1) := by decide +kernel
theorem dX12_stepsTo_45 : decode cX12_stepsTo 45 = .ok (.iload 4, 2) := by decide +kernel
theorem dX12_stepsTo_47 : decode cX12_stepsTo 47 = .ok (.lshl, 1) := by decide +kernel
theorem dX12_stepsTo_48 : decode cX12_stepsTo 48 = .ok (.lor, 1) := by decide +kernel
theorem dX12_stepsTo_49 : decode cX12_stepsTo 49 = .ok (.lastore, 1) := by decide +kernel
theorem dX12_stepsTo_50 : decode cX12_stepsTo 50 = .ok (.return_, 1) := by decide +kernel
theorem dX12_goesOn_0 : decode cX12_goesOn 0 = .ok (.iload_n 2, 1) := by decide +kernel
theorem dX12_goesOn_1 : decode cX12_goesOn 1 = .ok (.iconst 4, 1) := by decide +kernel
theorem dX12_goesOn_2 : decode cX12_goesOn 2 = .ok (.if_icmp .ne 4, 3) := by decide +kernel
theorem dX12_goesOn_5 : decode cX12_goesOn 5 = .ok (.return_, 1) := by decide +kernel
theorem dX12_goesOn_6 : decode cX12_goesOn 6 = .ok (.iload_n 1, 1) := by decide +kernel
theorem dX12_goesOn_7 : decode cX12_goesOn 7 = .ok (.istore 4, 2) := by decide +kernel
theorem dX12_goesOn_9 : decode cX12_goesOn 9 = .ok (.aload_n 0, 1) := by decide +kernel
theorem dX12_goesOn_10 : decode cX12_goesOn 10 = .ok (.iload 4, 2) := by decide +kernel
theorem dX12_goesOn_12 : decode cX12_goesOn 12 = .ok (.iload_n 2, 1) := by decide +kernel
theorem dX12_goesOn_13 : decode cX12_goesOn 13 = .ok (.invokevirtual 322, 3) := by decide +kernel
theorem dX12_goesOn_16 : decode cX12_goesOn 16 = .ok (.istore 5, 2) := by decide +kernel
theorem dX12_goesOn_18 : decode cX12_goesOn 18 = .ok (.iload 5, 2) := by decide +kernel
theorem dX12_goesOn_20 : decode cX12_goesOn 20 = .ok (.iconst (-1), 1) := by decide +kernel
theorem dX12_goesOn_21 : decode cX12_goesOn 21 = .ok (.if_icmp .eq 42, 3) := by decide +kernel
theorem dX12_goesOn_24 : decode cX12_goesOn 24 = .ok (.iload 5, 2) := by decide +kernel
theorem dX12_goesOn_26 : decode cX12_goesOn 26 = .ok (.istore 4, 2) := by decide +kernel
theorem dX12_goesOn_28 : decode cX12_goesOn 28 = .ok (.aload_n 0, 1) := by decide +kernel
theorem dX12_goesOn_29 : decode cX12_goesOn 29 = .ok (.iload 4, 2) := by decide +kernel
theorem dX12_goesOn_31 : decode cX12_goesOn 31 = .ok (.invokevirtual 325, 3) := by decide +kernel
theorem dX12_goesOn_34 : decode cX12_goesOn 34 = .ok (.ifCond .eq 17, 3) := by decide +kernel
theorem dX12_goesOn_37 : decode cX12_goesOn 37 = .ok (.aload_n 0, 1) := by decide +kernel
theorem dX12_goesOn_38 : decode cX12_goesOn 38 = .ok (.dup, 1) := by decide +kernel
theorem dX12_goesOn_39 : decode cX12_goesOn 39 = .ok (.getfield 328, 3) := by decide +kernel
theorem dX12_goesOn_42 : decode cX12_goesOn 42 = .ok (.lconst 1, 1) := by decide +kernel
theorem dX12_goesOn_43 : decode cX12_goesOn 43 = .ok (.iload 4, 2) := by decide +kernel
theorem dX12_goesOn_45 : decode cX12_goesOn 45 = .ok (.lshl, 1) := by decide +kernel
theorem dX12_goesOn_46 : decode cX12_goesOn 46 = .ok (.lor, 1) := by decide +kernel
theorem dX12_goesOn_47 : decode cX12_goesOn 47 = .ok (.putfield 328, 3) := by decide +kernel
theorem dX12_goesOn_50 : decode cX12_goesOn 50 = .ok (.return_, 1) := by decide +kernel
theorem dX12_goesOn_51 : decode cX12_goesOn 51 = .ok (.aload_n 0, 1) := by decide +kernel
theorem dX12_goesOn_52 : decode cX12_goesOn 52 = .ok (.iload 4, 2) := by decide +kernel
theorem dX12_goesOn_54 : decode cX12_goesOn 54 = .ok (.iload_n 2, 1) := by decide +kernel
theorem dX12_goesOn_55 : decode cX12_goesOn 55 = .ok (.invokevirtual 322, 3) := by decide +kernel
theorem dX12_goesOn_58 : decode cX12_goesOn 58 = .ok (.istore 5, 2) := by decide +kernel
theorem dX12_goesOn_60 : decode cX12_goesOn 60 = .ok (.goto (-42), 3) := by decide +kernel
theorem dX12_goesOn_63 : decode cX12_goesOn 63 = .ok (.aload_n 3, 1) := by decide +kernel
theorem dX12_goesOn_64 : decode cX12_goesOn 64 = .ok (.iload_n 2, 1) := by decide +kernel
theorem dX12_goesOn_65 : decode cX12_goesOn 65 = .ok (.dup2, 1) := by decide +kernel
theorem dX12_goesOn_66 : decode cX12_goesOn 66 = .ok (.laload, 1) := by decide +kernel
theorem dX12_goesOn_67 : decode cX12_goesOn 67 = .ok (.lconst 1, 1) := by decide +kernel
theorem dX12_goesOn_68 : decode cX12_goesOn 68 = .ok (.iload 4, 2) := by decide +kernel
theorem dX12_goesOn_70 : decode cX12_goesOn 70 = .ok (.lshl, 1) := by decide +kernel
theorem dX12_goesOn_71 : decode cX12_goesOn 71 = .ok (.lor, 1) := by decide +kernel
theorem dX12_goesOn_72 : decode cX12_goesOn 72 = .ok (.lastore, 1) := by decide +kernel
theorem dX12_goesOn_73 : decode cX12_goesOn 73 = .ok (.return_, 1) := by decide +kernel
theorem dX12_clear_0 : decode cX12_clear 0 = .ok (.iconst 0, 1) := by decide +kernel
theorem dX12_clear_1 : decode cX12_clear 1 = .ok (.istore_n 1, 1) := by decide +kernel
theorem dX12_clear_2 : decode cX12_clear 2 = .ok (.iload_n 1, 1) := by decide +kernel
theorem dX12_clear_3 : decode cX12_clear 3 = .ok (.iconst 5, 1) := by decide +kernel
theorem dX12_clear_4 : decode cX12_clear 4 = .ok (.if_icmp .ge 13, 3) := by decide +kernel
theorem dX12_clear_7 : decode cX12_clear 7 = .ok (.aload_n 0, 1) := by decide +kernel
theorem dX12_clear_8 : decode cX12_clear 8 = .ok (.iload_n 1, 1) := by decide +kernel
theorem dX12_clear_9 : decode cX12_clear 9 = .ok (.lconst 0, 1) := by decide +kernel
theorem dX12_clear_10 : decode cX12_clear 10 = .ok (.lastore, 1) := by decide +kernel
theorem dX12_clear_11 : decode cX12_clear 11 = .ok (.iinc 1 1, 3) := by decide +kernel
theorem dX12_clear_14 : decode cX12_clear 14 = .ok (.goto (-12), 3) := by decide +kernel
theorem dX12_clear_17 : decode cX12_clear 17 = .ok (.return_, 1) := by decide +kernel
theorem dX12_copy_0 : decode cX12_copy 0 = .ok (.iconst 0, 1) := by decide +kernel
theorem dX12_copy_1 : decode cX12_copy 1 = .ok (.istore_n 2, 1) := by decide +kernel
theorem dX12_copy_2 : decode cX12_copy 2 = .ok (.iload_n 2, 1) := by decide +kernel
theorem dX12_copy_3 : decode cX12_copy 3 = .ok (.iconst 5, 1) := by decide +kernel
theorem dX12_copy_4 : decode cX12_copy 4 = .ok (.if_icmp .ge 15, 3) := by decide +kernel
theorem dX12_copy_7 : decode cX12_copy 7 = .ok (.aload_n 1, 1) := by decide +kernel
theorem dX12_copy_8 : decode cX12_copy 8 = .ok (.iload_n 2, 1) := by decide +kernel
theorem dX12_copy_9 : decode cX12_copy 9 = .ok (.aload_n 0, 1) := by decide +kernel
theorem dX12_copy_10 : decode cX12_copy 10 = .ok (.iload_n 2, 1) := by decide +kernel
theorem dX12_copy_11 : decode cX12_copy 11 = .ok (.laload, 1) := by decide +kernel
theorem dX12_copy_12 : decode cX12_copy 12 = .ok (.lastore, 1) := by decide +kernel
theorem dX12_copy_13 : decode cX12_copy 13 = .ok (.iinc 2 1, 3) := by decide +kernel
theorem dX12_copy_16 : decode cX12_copy 16 = .ok (.goto (-14), 3) := by decide +kernel
theorem dX12_copy_19 : decode cX12_copy 19 = .ok (.return_, 1) := by decide +kernel
theorem dX12_isEmpty_0 : decode cX12_isEmpty 0 = .ok (.iconst 0, 1) := by decide +kernel
theorem dX12_isEmpty_1 : decode cX12_isEmpty 1 = .ok (.istore_n 1, 1) := by decide +kernel
theorem dX12_isEmpty_2 : decode cX12_isEmpty 2 = .ok (.iload_n 1, 1) := by decide +kernel
theorem dX12_isEmpty_3 : decode cX12_isEmpty 3 = .ok (.iconst 5, 1) := by decide +kernel
theorem dX12_isEmpty_4 : decode cX12_isEmpty 4 = .ok (.if_icmp .ge 19, 3) := by decide +kernel
theorem dX12_isEmpty_7 : decode cX12_isEmpty 7 = .ok (.aload_n 0, 1) := by decide +kernel
theorem dX12_isEmpty_8 : decode cX12_isEmpty 8 = .ok (.iload_n 1, 1) := by decide +kernel
theorem dX12_isEmpty_9 : decode cX12_isEmpty 9 = .ok (.laload, 1) := by decide +kernel
theorem dX12_isEmpty_10 : decode cX12_isEmpty 10 = .ok (.lconst 0, 1) := by decide +kernel
theorem dX12_isEmpty_11 : decode cX12_isEmpty 11 = .ok (.lcmp, 1) := by decide +kernel
theorem dX12_isEmpty_12 : decode cX12_isEmpty 12 = .ok (.ifCond .eq 5, 3) := by decide +kernel
theorem dX12_isEmpty_15 : decode cX12_isEmpty 15 = .ok (.iconst 0, 1) := by decide +kernel
theorem dX12_isEmpty_16 : decode cX12_isEmpty 16 = .ok (.ireturn, 1) := by decide +kernel
theorem dX12_isEmpty_17 : decode cX12_isEmpty 17 = .ok (.iinc 1 1, 3) := by decide +kernel
theorem dX12_isEmpty_20 : decode cX12_isEmpty 20 = .ok (.goto (-18), 3) := by decide +kernel
theorem dX12_isEmpty_23 : decode cX12_isEmpty 23 = .ok (.iconst 1, 1) := by decide +kernel
theorem dX12_isEmpty_24 : decode cX12_isEmpty 24 = .ok (.ireturn, 1) := by decide +kernel
theorem dX12_plain_0 : decode cX12_plain 0 = .ok (.aload_n 3, 1) := by decide +kernel
theorem dX12_plain_1 : decode cX12_plain 1 = .ok (.invokestatic 331, 3) := by decide +kernel
theorem dX12_plain_4 : decode cX12_plain 4 = .ok (.iconst 0, 1) := by decide +kernel
theorem dX12_plain_5 : decode cX12_plain 5 = .ok (.istore 4, 2) := by decide +kernel
theorem dX12_plain_7 : decode cX12_plain 7 = .ok (.iload 4, 2) := by decide +kernel
theorem dX12_plain_9 : decode cX12_plain 9 = .ok (.iconst 5, 1) := by decide +kernel
theorem dX12_plain_10 : decode cX12_plain 10 = .ok (.if_icmp .ge 49, 3) := by decide +kernel
theorem dX12_plain_13 : decode cX12_plain 13 = .ok (.iconst 0, 1) := by decide +kernel
theorem dX12_plain_14 : decode cX12_plain 14 = .ok (.istore 5, 2) := by decide +kernel
theorem dX12_plain_16 : decode cX12_plain 16 = .ok (.iload 5, 2) := by decide +kernel
theorem dX12_plain_18 : decode cX12_plain 18 = .ok (.aload_n 0, 1) := by decide +kernel
theorem dX12_plain_19 : decode cX12_plain 19 = .ok (.getfield 284, 3) := by decide +kernel
theorem dX12_plain_22 : decode cX12_plain 22 = .ok (.if_icmp .ge 31, 3) := by decide +kernel
theorem dX12_plain_25 : decode cX12_plain 25 = .ok (.aload_n 2, 1) := by decide +kernel
theorem dX12_plain_26 : decode cX12_plain 26 = .ok (.iload 4, 2) := by decide +kernel
theorem dX12_plain_28 : decode cX12_plain 28 = .ok (.laload, 1) := by decide +kernel
theorem dX12_plain_29 : decode cX12_plain 29 = .ok (.iload 5, 2) := by decide +kernel
theorem dX12_plain_31 : decode cX12_plain 31 = .ok (.invokestatic 299, 3) := by decide +kernel
theorem dX12_plain_34 : decode cX12_plain 34 = .ok (.ifCond .eq 13, 3) := by decide +kernel
theorem dX12_plain_37 : decode cX12_plain 37 = .ok (.aload_n 0, 1) := by decide +kernel
theorem dX12_plain_38 : decode cX12_plain 38 = .ok (.iload_n 1, 1) := by decide +kernel
theorem dX12_plain_39 : decode cX12_plain 39 = .ok (.iload 5, 2) := by decide +kernel
theorem dX12_plain_41 : decode cX12_plain 41 = .ok (.iload 4, 2) := by decide +kernel
theorem dX12_plain_43 : decode cX12_plain 43 = .ok (.aload_n 3, 1) := by decide +kernel
theorem dX12_plain_44 : decode cX12_plain 44 = .ok (.invokevirtual 335, 3) := by decide +kernel
theorem dX12_plain_47 : decode cX12_plain 47 = .ok (.iinc 5 1, 3) := by decide +kernel
theorem dX12_plain_50 : decode cX12_plain 50 = .ok (.goto (-34), 3) := by decide +kernel
theorem dX12_plain_53 : decode cX12_plain 53 = .ok (.iinc 4 1, 3) := by decide +kernel
theorem dX12_plain_56 : decode cX12_plain 56 = .ok (.goto (-49), 3) := by decide +kernel
theorem dX12_plain_59 : decode cX12_plain 59 = .ok (.return_, 1) := by decide +kernel
theorem dX12_plainAt_0 : decode cX12_plainAt 0 = .ok (.iload_n 1, 1) := by decide +kernel
theorem dX12_plainAt_1 : decode cX12_plainAt 1 = .ok (.iconst 4, 1) := by decide +kernel
theorem dX12_plainAt_2 : decode cX12_plainAt 2 = .ok (.if_icmp .ge 14, 3) := by decide +kernel
theorem dX12_plainAt_5 : decode cX12_plainAt 5 = .ok (.aload_n 0, 1) := by decide +kernel
theorem dX12_plainAt_6 : decode cX12_plainAt 6 = .ok (.iload_n 2, 1) := by decide +kernel
theorem dX12_plainAt_7 : decode cX12_plainAt 7 = .ok (.iload_n 1, 1) := by decide +kernel
theorem dX12_plainAt_8 : decode cX12_plainAt 8 = .ok (.aload 4, 2) := by decide +kernel
theorem dX12_plainAt_10 : decode cX12_plainAt 10 = .ok (.invokevirtual 339, 3) := by decide +kernel
theorem dX12_plainAt_13 : decode cX12_plainAt 13 = .ok (.goto 80, 3) := by decide +kernel
theorem dX12_plainAt_16 : decode cX12_plainAt 16 = .ok (.iload_n 1, 1) := by decide +kernel
theorem dX12_plainAt_17 : decode cX12_plainAt 17 = .ok (.iconst 4, 1) := by decide +kernel
theorem dX12_plainAt_18 : decode cX12_plainAt 18 = .ok (.if_icmp .ne 30, 3) := by decide +kernel
theorem dX12_plainAt_21 : decode cX12_plainAt 21 = .ok (.iconst 0, 1) := by decide +kernel
theorem dX12_plainAt_22 : decode cX12_plainAt 22 = .ok (.istore 5, 2) := by decide +kernel
theorem dX12_plainAt_24 : decode cX12_plainAt 24 = .ok (.iload 5, 2) := by decide +kernel
theorem dX12_plainAt_26 : decode cX12_plainAt 26 = .ok (.iconst 4, 1) := by decide +kernel
theorem dX12_plainAt_27 : decode cX12_plainAt 27 = .ok (.if_icmp .ge 18, 3) := by decide +kernel
theorem dX12_plainAt_30 : decode cX12_plainAt 30 = .ok (.aload_n 0, 1) := by decide +kernel
theorem dX12_plainAt_31 : decode cX12_plainAt 31 = .ok (.iload_n 2, 1) := by decide +kernel
theorem dX12_plainAt_32 : decode cX12_plainAt 32 = .ok (.iload 5, 2) := by decide +kernel
theorem dX12_plainAt_34 : decode cX12_plainAt 34 = .ok (.aload 4, 2) := by decide +kernel
theorem dX12_plainAt_36 : decode cX12_plainAt 36 = .ok (.invokevirtual 339, 3) := by decide +kernel
theorem dX12_plainAt_39 : decode cX12_plainAt 39 = .ok (.iinc 5 1, 3) := by decide +kernel
theorem dX12_plainAt_42 : decode cX12_plainAt 42 = .ok (.goto (-18), 3) := by decide +kernel
theorem dX12_plainAt_45 : decode cX12_plainAt 45 = .ok (.goto 48, 3) := by decide +kernel
theorem dX12_plainAt_48 : decode cX12_plainAt 48 = .ok (.iload_n 1, 1) := by decide +kernel
theorem dX12_plainAt_49 : decode cX12_plainAt 49 = .ok (.iconst 5, 1) := by decide +kernel
theorem dX12_plainAt_50 : decode cX12_plainAt 50 = .ok (.if_icmp .ne 14, 3) := by decide +kernel
theorem dX12_plainAt_53 : decode cX12_plainAt 53 = .ok (.aload_n 0, 1) := by decide +kernel
theorem dX12_plainAt_54 : decode cX12_plainAt 54 = .ok (.iload_n 2, 1) := by decide +kernel
theorem dX12_plainAt_55 : decode cX12_plainAt 55 = .ok (.iload_n 3, 1) := by decide +kernel
theorem dX12_plainAt_56 : decode cX12_plainAt 56 = .ok (.aload 4, 2) := by decide +kernel
theorem dX12_plainAt_58 : decode cX12_plainAt 58 = .ok (.invokevirtual 343, 3) := by decide +kernel
theorem dX12_plainAt_61 : decode cX12_plainAt 61 = .ok (.goto 32, 3) := by decide +kernel
theorem dX12_plainAt_64 : decode cX12_plainAt 64 = .ok (.aload_n 0, 1) := by decide +kernel
theorem dX12_plainAt_65 : decode cX12_plainAt 65 = .ok (.iload_n 2, 1) := by decide +kernel
theorem dX12_plainAt_66 : decode cX12_plainAt 66 = .ok (.invokevirtual 346, 3) := by decide +kernel
theorem dX12_plainAt_69 : decode cX12_plainAt 69 = .ok (.iload_n 1, 1) := by decide +kernel
theorem dX12_plainAt_70 : decode cX12_plainAt 70 = .ok (.bipush 8, 2) := by decide +kernel
theorem dX12_plainAt_72 : decode cX12_plainAt 72 = .ok (.if_icmp .ne 7, 3) := by decide +kernel
theorem dX12_plainAt_75 : decode cX12_plainAt 75 = .ok (.iconst 1, 1) := by decide +kernel
theorem dX12_plainAt_76 : decode cX12_plainAt 76 = .ok (.goto 4, 3) := by decide +kernel
theorem dX12_plainAt_79 : decode cX12_plainAt 79 = .ok (.iconst 0, 1) := by decide +kernel
theorem dX12_plainAt_80 : decode cX12_plainAt 80 = .ok (.if_icmp .ne 13, 3) := by decide +kernel
theorem dX12_plainAt_83 : decode cX12_plainAt 83 = .ok (.aload 4, 2) := by decide +kernel
theorem dX12_plainAt_85 : decode cX12_plainAt 85 = .ok (.iload_n 3, 1) := by decide +kernel
theorem dX12_plainAt_86 : decode cX12_plainAt 86 = .ok (.dup2, 1) := by decide +kernel
theorem dX12_plainAt_87 : decode cX12_plainAt 87 = .ok (.laload, 1) := by decide +kernel
theorem dX12_plainAt_88 : decode cX12_plainAt 88 = .ok (.lconst 1, 1) := by decide +kernel
theorem dX12_plainAt_89 : decode cX12_plainAt 89 = .ok (.iload_n 2, 1) := by decide +kernel
theorem dX12_plainAt_90 : decode cX12_plainAt 90 = .ok (.lshl, 1) := by decide +kernel
theorem dX12_plainAt_91 : decode cX12_plainAt 91 = .ok (.lor, 1) := by decide +kernel
theorem dX12_plainAt_92 : decode cX12_plainAt 92 = .ok (.lastore, 1) := by decide +kernel
theorem dX12_plainAt_93 : decode cX12_plainAt 93 = .ok (.return_, 1) := by decide +kernel
theorem dX12_maybe_0 : decode cX12_maybe 0 = .ok (.aload_n 3, 1) := by decide +kernel
theorem dX12_maybe_1 : decode cX12_maybe 1 = .ok (.invokestatic 331, 3) := by decide +kernel
theorem dX12_maybe_4 : decode cX12_maybe 4 = .ok (.iconst 0, 1) := by decide +kernel
theorem dX12_maybe_5 : decode cX12_maybe 5 = .ok (.istore 4, 2) := by decide +kernel
theorem dX12_maybe_7 : decode cX12_maybe 7 = .ok (.iload 4, 2) := by decide +kernel
theorem dX12_maybe_9 : decode cX12_maybe 9 = .ok (.iconst 5, 1) := by decide +kernel
theorem dX12_maybe_10 : decode cX12_maybe 10 = .ok (.if_icmp .ge 130, 3) := by decide +kernel
theorem dX12_maybe_13 : decode cX12_maybe 13 = .ok (.iconst 0, 1) := by decide +kernel
theorem dX12_maybe_14 : decode cX12_maybe 14 = .ok (.istore 5, 2) := by decide +kernel
theorem dX12_maybe_16 : decode cX12_maybe 16 = .ok (.iload 5, 2) := by decide +kernel
theorem dX12_maybe_18 : decode cX12_maybe 18 = .ok (.aload_n 0, 1) := by decide +kernel
theorem dX12_maybe_19 : decode cX12_maybe 19 = .ok (.getfield 284, 3) := by decide +kernel
theorem dX12_maybe_22 : decode cX12_maybe 22 = .ok (.if_icmp .ge 112, 3) := by decide +kernel
theorem dX12_maybe_25 : decode cX12_maybe 25 = .ok (.aload_n 2, 1) := by decide +kernel
theorem dX12_maybe_26 : decode cX12_maybe 26 = .ok (.iload 4, 2) := by decide +kernel
theorem dX12_maybe_28 : decode cX12_maybe 28 = .ok (.laload, 1) := by decide +kernel
theorem dX12_maybe_29 : decode cX12_maybe 29 = .ok (.iload 5, 2) := by decide +kernel
theorem dX12_maybe_31 : decode cX12_maybe 31 = .ok (.invokestatic 299, 3) := by decide +kernel
theorem dX12_maybe_34 : decode cX12_maybe 34 = .ok (.ifCond .eq 94, 3) := by decide +kernel
theorem dX12_maybe_37 : decode cX12_maybe 37 = .ok (.aload_n 0, 1) := by decide +kernel
theorem dX12_maybe_38 : decode cX12_maybe 38 = .ok (.getfield 328, 3) := by decide +kernel
theorem dX12_maybe_41 : decode cX12_maybe 41 = .ok (.lstore 6, 2) := by decide +kernel
theorem dX12_maybe_43 : decode cX12_maybe 43 = .ok (.aload_n 0, 1) := by decide +kernel
theorem dX12_maybe_44 : decode cX12_maybe 44 = .ok (.lconst 0, 1) := by decide +kernel
theorem dX12_maybe_45 : decode cX12_maybe 45 = .ok (.putfield 328, 3) := by decide +kernel
theorem dX12_maybe_48 : decode cX12_maybe 48 = .ok (.aload_n 0, 1) := by decide +kernel
theorem dX12_maybe_49 : decode cX12_maybe 49 = .ok (.getfield 50, 3) := by decide +kernel
theorem dX12_maybe_52 : decode cX12_maybe 52 = .ok (.invokestatic 331, 3) := by decide +kernel
theorem dX12_maybe_55 : decode cX12_maybe 55 = .ok (.aload_n 0, 1) := by decide +kernel
theorem dX12_maybe_56 : decode cX12_maybe 56 = .ok (.getfield 50, 3) := by decide +kernel
theorem dX12_maybe_59 : decode cX12_maybe 59 = .ok (.iload 4, 2) := by decide +kernel
theorem dX12_maybe_61 : decode cX12_maybe 61 = .ok (.lconst 1, 1) := by decide +kernel
theorem dX12_maybe_62 : decode cX12_maybe 62 = .ok (.iload 5, 2) := by decide +kernel
theorem dX12_maybe_64 : decode cX12_maybe 64 = .ok (.lshl, 1) := by decide +kernel
theorem dX12_maybe_65 : decode cX12_maybe 65 = .ok (.lastore, 1) := by decide +kernel
theorem dX12_maybe_66 : decode cX12_maybe 66 = .ok (.aload_n 0, 1) := by decide +kernel
theorem dX12_maybe_67 : decode cX12_maybe 67 = .ok (.iload_n 1, 1) := by decide +kernel
theorem dX12_maybe_68 : decode cX12_maybe 68 = .ok (.aload_n 0, 1) := by decide +kernel
theorem dX12_maybe_69 : decode cX12_maybe 69 = .ok (.getfield 50, 3) := by decide +kernel
theorem dX12_maybe_72 : decode cX12_maybe 72 = .ok (.aload_n 0, 1) := by decide +kernel
theorem dX12_maybe_73 : decode cX12_maybe 73 = .ok (.getfield 54, 3) := by decide +kernel
theorem dX12_maybe_76 : decode cX12_maybe 76 = .ok (.invokevirtual 349, 3) := by decide +kernel
theorem dX12_maybe_79 : decode cX12_maybe 79 = .ok (.aload_n 0, 1) := by decide +kernel
theorem dX12_maybe_80 : decode cX12_maybe 80 = .ok (.getfield 328, 3) := by decide +kernel
theorem dX12_maybe_83 : decode cX12_maybe 83 = .ok (.lconst 0, 1) := by decide +kernel
theorem dX12_maybe_84 : decode cX12_maybe 84 = .ok (.lcmp, 1) := by decide +kernel
theorem dX12_maybe_85 : decode cX12_maybe 85 = .ok (.ifCond .ne 24, 3) := by decide +kernel
theorem dX12_maybe_88 : decode cX12_maybe 88 = .ok (.aload_n 0, 1) := by decide +kernel
theorem dX12_maybe_89 : decode cX12_maybe 89 = .ok (.getfield 54, 3) := by decide +kernel
theorem dX12_maybe_92 : decode cX12_maybe 92 = .ok (.invokestatic 353, 3) := by decide +kernel
theorem dX12_maybe_95 : decode cX12_maybe 95 = .ok (.ifCond .eq 14, 3) := by decide +kernel
theorem dX12_maybe_98 : decode cX12_maybe 98 = .ok (.aload_n 3, 1) := by decide +kernel
theorem dX12_maybe_99 : decode cX12_maybe 99 = .ok (.iload 4, 2) := by decide +kernel
theorem dX12_maybe_101 : decode cX12_maybe 101 = .ok (.dup2, 1) := by decide +kernel
theorem dX12_maybe_102 : decode cX12_maybe 102 = .ok (.laload, 1) := by decide +kernel
theorem dX12_maybe_103 : decode cX12_maybe 103 = .ok (.lconst 1, 1) := by decide +kernel
theorem dX12_maybe_104 : decode cX12_maybe 104 = .ok (.iload 5, 2) := by decide +kernel
theorem dX12_maybe_106 : decode cX12_maybe 106 = .ok (.lshl, 1) := by decide +kernel
theorem dX12_maybe_107 : decode cX12_maybe 107 = .ok (.lor, 1) := by decide +kernel
theorem dX12_maybe_108 : decode cX12_maybe 108 = .ok (.lastore, 1) := by decide +kernel
theorem dX12_maybe_109 : decode cX12_maybe 109 = .ok (.aload_n 0, 1) := by decide +kernel
theorem dX12_maybe_110 : decode cX12_maybe 110 = .ok (.getfield 54, 3) := by decide +kernel
theorem dX12_maybe_113 : decode cX12_maybe 113 = .ok (.aload_n 3, 1) := by decide +kernel
theorem dX12_maybe_114 : decode cX12_maybe 114 = .ok (.invokestatic 357, 3) := by decide +kernel
theorem dX12_maybe_117 : decode cX12_maybe 117 = .ok (.aload_n 0, 1) := by decide +kernel
theorem dX12_maybe_118 : decode cX12_maybe 118 = .ok (.dup, 1) := by decide +kernel
theorem dX12_maybe_119 : decode cX12_maybe 119 = .ok (.getfield 328, 3) := by decide +kernel
theorem dX12_maybe_122 : decode cX12_maybe 122 = .ok (.lload 6, 2) := by decide +kernel
theorem dX12_maybe_124 : decode cX12_maybe 124 = .ok (.lor, 1) := by decide +kernel
theorem dX12_maybe_125 : decode cX12_maybe 125 = .ok (.putfield 328, 3) := by decide +kernel
theorem dX12_maybe_128 : decode cX12_maybe 128 = .ok (.iinc 5 1, 3) := by decide +kernel
theorem dX12_maybe_131 : decode cX12_maybe 131 = .ok (.goto (-115), 3) := by decide +kernel
theorem dX12_maybe_134 : decode cX12_maybe 134 = .ok (.iinc 4 1, 3) := by decide +kernel
theorem dX12_maybe_137 : decode cX12_maybe 137 = .ok (.goto (-130), 3) := by decide +kernel
theorem dX12_maybe_140 : decode cX12_maybe 140 = .ok (.return_, 1) := by decide +kernel
theorem dX12_join_0 : decode cX12_join 0 = .ok (.iconst 0, 1) := by decide +kernel
