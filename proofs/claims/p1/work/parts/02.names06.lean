theorem dX12_goodOf_31 : decode cX12_goodOf 31 = .ok (.land, 1) := by decide +kernel
theorem dX12_goodOf_32 : decode cX12_goodOf 32 = .ok (.putfield 315, 3) := by decide +kernel
theorem dX12_goodOf_35 : decode cX12_goodOf 35 = .ok (.lload_n 3, 1) := by decide +kernel
theorem dX12_goodOf_36 : decode cX12_goodOf 36 = .ok (.lload_n 1, 1) := by decide +kernel
theorem dX12_goodOf_37 : decode cX12_goodOf 37 = .ok (.aload_n 0, 1) := by decide +kernel
theorem dX12_goodOf_38 : decode cX12_goodOf 38 = .ok (.getfield 293, 3) := by decide +kernel
theorem dX12_goodOf_41 : decode cX12_goodOf 41 = .ok (.ldc2_w 395, 3) := by decide +kernel
theorem dX12_goodOf_44 : decode cX12_goodOf 44 = .ok (.lxor, 1) := by decide +kernel
theorem dX12_goodOf_45 : decode cX12_goodOf 45 = .ok (.land, 1) := by decide +kernel
theorem dX12_goodOf_46 : decode cX12_goodOf 46 = .ok (.iload 7, 2) := by decide +kernel
theorem dX12_goodOf_48 : decode cX12_goodOf 48 = .ok (.invokestatic 299, 3) := by decide +kernel
theorem dX12_goodOf_51 : decode cX12_goodOf 51 = .ok (.ifCond .eq 19, 3) := by decide +kernel
theorem dX12_goodOf_54 : decode cX12_goodOf 54 = .ok (.aload_n 0, 1) := by decide +kernel
theorem dX12_goodOf_55 : decode cX12_goodOf 55 = .ok (.iload 7, 2) := by decide +kernel
theorem dX12_goodOf_57 : decode cX12_goodOf 57 = .ok (.invokevirtual 346, 3) := by decide +kernel
theorem dX12_goodOf_60 : decode cX12_goodOf 60 = .ok (.ifCond .ne 10, 3) := by decide +kernel
theorem dX12_goodOf_63 : decode cX12_goodOf 63 = .ok (.lconst 1, 1) := by decide +kernel
theorem dX12_goodOf_64 : decode cX12_goodOf 64 = .ok (.iload 7, 2) := by decide +kernel
theorem dX12_goodOf_66 : decode cX12_goodOf 66 = .ok (.lshl, 1) := by decide +kernel
theorem dX12_goodOf_67 : decode cX12_goodOf 67 = .ok (.goto 4, 3) := by decide +kernel
theorem dX12_goodOf_70 : decode cX12_goodOf 70 = .ok (.lconst 0, 1) := by decide +kernel
theorem dX12_goodOf_71 : decode cX12_goodOf 71 = .ok (.lor, 1) := by decide +kernel
theorem dX12_goodOf_72 : decode cX12_goodOf 72 = .ok (.lstore_n 3, 1) := by decide +kernel
theorem dX12_goodOf_73 : decode cX12_goodOf 73 = .ok (.iinc 7 1, 3) := by decide +kernel
theorem dX12_goodOf_76 : decode cX12_goodOf 76 = .ok (.goto (-65), 3) := by decide +kernel
theorem dX12_goodOf_79 : decode cX12_goodOf 79 = .ok (.aload_n 0, 1) := by decide +kernel
theorem dX12_goodOf_80 : decode cX12_goodOf 80 = .ok (.lload 5, 2) := by decide +kernel
theorem dX12_goodOf_82 : decode cX12_goodOf 82 = .ok (.putfield 315, 3) := by decide +kernel
theorem dX12_goodOf_85 : decode cX12_goodOf 85 = .ok (.lload_n 3, 1) := by decide +kernel
theorem dX12_goodOf_86 : decode cX12_goodOf 86 = .ok (.lreturn, 1) := by decide +kernel
theorem dX12_loses_0 : decode cX12_loses 0 = .ok (.aload_n 0, 1) := by decide +kernel
theorem dX12_loses_1 : decode cX12_loses 1 = .ok (.iconst 0, 1) := by decide +kernel
theorem dX12_loses_2 : decode cX12_loses 2 = .ok (.putfield 157, 3) := by decide +kernel
theorem dX12_loses_5 : decode cX12_loses 5 = .ok (.aload_n 0, 1) := by decide +kernel
theorem dX12_loses_6 : decode cX12_loses 6 = .ok (.iload_n 1, 1) := by decide +kernel
theorem dX12_loses_7 : decode cX12_loses 7 = .ok (.iload_n 2, 1) := by decide +kernel
theorem dX12_loses_8 : decode cX12_loses 8 = .ok (.iload_n 3, 1) := by decide +kernel
theorem dX12_loses_9 : decode cX12_loses 9 = .ok (.invokevirtual 476, 3) := by decide +kernel
theorem dX12_loses_12 : decode cX12_loses 12 = .ok (.ifCond .eq 13, 3) := by decide +kernel
theorem dX12_loses_15 : decode cX12_loses 15 = .ok (.aload_n 0, 1) := by decide +kernel
theorem dX12_loses_16 : decode cX12_loses 16 = .ok (.iload_n 3, 1) := by decide +kernel
theorem dX12_loses_17 : decode cX12_loses 17 = .ok (.iconst 0, 1) := by decide +kernel
theorem dX12_loses_18 : decode cX12_loses 18 = .ok (.invokevirtual 436, 3) := by decide +kernel
theorem dX12_loses_21 : decode cX12_loses 21 = .ok (.iconst (-1), 1) := by decide +kernel
theorem dX12_loses_22 : decode cX12_loses 22 = .ok (.if_icmp .ne 5, 3) := by decide +kernel
theorem dX12_loses_25 : decode cX12_loses 25 = .ok (.iconst 0, 1) := by decide +kernel
theorem dX12_loses_26 : decode cX12_loses 26 = .ok (.ireturn, 1) := by decide +kernel
theorem dX12_loses_27 : decode cX12_loses 27 = .ok (.aload_n 0, 1) := by decide +kernel
theorem dX12_loses_28 : decode cX12_loses 28 = .ok (.aload_n 0, 1) := by decide +kernel
theorem dX12_loses_29 : decode cX12_loses 29 = .ok (.aload_n 0, 1) := by decide +kernel
theorem dX12_loses_30 : decode cX12_loses 30 = .ok (.iconst 1, 1) := by decide +kernel
theorem dX12_loses_31 : decode cX12_loses 31 = .ok (.aload_n 0, 1) := by decide +kernel
theorem dX12_loses_32 : decode cX12_loses 32 = .ok (.getfield 296, 3) := by decide +kernel
theorem dX12_loses_35 : decode cX12_loses 35 = .ok (.isub, 1) := by decide +kernel
theorem dX12_loses_36 : decode cX12_loses 36 = .ok (.invokevirtual 446, 3) := by decide +kernel
theorem dX12_loses_39 : decode cX12_loses 39 = .ok (.invokevirtual 392, 3) := by decide +kernel
theorem dX12_loses_42 : decode cX12_loses 42 = .ok (.invokevirtual 479, 3) := by decide +kernel
theorem dX12_loses_45 : decode cX12_loses 45 = .ok (.lstore 4, 2) := by decide +kernel
theorem dX12_loses_47 : decode cX12_loses 47 = .ok (.lload 4, 2) := by decide +kernel
theorem dX12_loses_49 : decode cX12_loses 49 = .ok (.lconst 0, 1) := by decide +kernel
theorem dX12_loses_50 : decode cX12_loses 50 = .ok (.lcmp, 1) := by decide +kernel
theorem dX12_loses_51 : decode cX12_loses 51 = .ok (.ifCond .eq 21, 3) := by decide +kernel
theorem dX12_loses_54 : decode cX12_loses 54 = .ok (.lload 4, 2) := by decide +kernel
theorem dX12_loses_56 : decode cX12_loses 56 = .ok (.aload_n 0, 1) := by decide +kernel
theorem dX12_loses_57 : decode cX12_loses 57 = .ok (.iload_n 3, 1) := by decide +kernel
theorem dX12_loses_58 : decode cX12_loses 58 = .ok (.iconst 0, 1) := by decide +kernel
theorem dX12_loses_59 : decode cX12_loses 59 = .ok (.invokevirtual 436, 3) := by decide +kernel
theorem dX12_loses_62 : decode cX12_loses 62 = .ok (.invokestatic 299, 3) := by decide +kernel
theorem dX12_loses_65 : decode cX12_loses 65 = .ok (.ifCond .ne 7, 3) := by decide +kernel
theorem dX12_loses_68 : decode cX12_loses 68 = .ok (.iconst 1, 1) := by decide +kernel
theorem dX12_loses_69 : decode cX12_loses 69 = .ok (.goto 4, 3) := by decide +kernel
theorem dX12_loses_72 : decode cX12_loses 72 = .ok (.iconst 0, 1) := by decide +kernel
theorem dX12_loses_73 : decode cX12_loses 73 = .ok (.ireturn, 1) := by decide +kernel
theorem dX12_brave_0 : decode cX12_brave 0 = .ok (.aload_n 0, 1) := by decide +kernel
theorem dX12_brave_1 : decode cX12_brave 1 = .ok (.iconst 0, 1) := by decide +kernel
theorem dX12_brave_2 : decode cX12_brave 2 = .ok (.putfield 157, 3) := by decide +kernel
theorem dX12_brave_5 : decode cX12_brave 5 = .ok (.aload_n 0, 1) := by decide +kernel
theorem dX12_brave_6 : decode cX12_brave 6 = .ok (.iconst 2, 1) := by decide +kernel
theorem dX12_brave_7 : decode cX12_brave 7 = .ok (.iload_n 2, 1) := by decide +kernel
theorem dX12_brave_8 : decode cX12_brave 8 = .ok (.invokevirtual 268, 3) := by decide +kernel
theorem dX12_brave_11 : decode cX12_brave 11 = .ok (.ifCond .eq 20, 3) := by decide +kernel
theorem dX12_brave_14 : decode cX12_brave 14 = .ok (.aload_n 0, 1) := by decide +kernel
theorem dX12_brave_15 : decode cX12_brave 15 = .ok (.iload_n 1, 1) := by decide +kernel
theorem dX12_brave_16 : decode cX12_brave 16 = .ok (.invokevirtual 302, 3) := by decide +kernel
theorem dX12_brave_19 : decode cX12_brave 19 = .ok (.ifCond .eq 12, 3) := by decide +kernel
theorem dX12_brave_22 : decode cX12_brave 22 = .ok (.iload_n 3, 1) := by decide +kernel
theorem dX12_brave_23 : decode cX12_brave 23 = .ok (.iconst 0, 1) := by decide +kernel
theorem dX12_brave_24 : decode cX12_brave 24 = .ok (.iconst 1, 1) := by decide +kernel
theorem dX12_brave_25 : decode cX12_brave 25 = .ok (.invokestatic 165, 3) := by decide +kernel
theorem dX12_brave_28 : decode cX12_brave 28 = .ok (.ifCond .ne 5, 3) := by decide +kernel
theorem dX12_brave_31 : decode cX12_brave 31 = .ok (.iconst (-1), 1) := by decide +kernel
theorem dX12_brave_32 : decode cX12_brave 32 = .ok (.ireturn, 1) := by decide +kernel
theorem dX12_brave_33 : decode cX12_brave 33 = .ok (.aload_n 0, 1) := by decide +kernel
theorem dX12_brave_34 : decode cX12_brave 34 = .ok (.iload_n 2, 1) := by decide +kernel
theorem dX12_brave_35 : decode cX12_brave 35 = .ok (.putfield 430, 3) := by decide +kernel
theorem dX12_brave_38 : decode cX12_brave 38 = .ok (.aload_n 0, 1) := by decide +kernel
theorem dX12_brave_39 : decode cX12_brave 39 = .ok (.aload_n 0, 1) := by decide +kernel
theorem dX12_brave_40 : decode cX12_brave 40 = .ok (.invokevirtual 433, 3) := by decide +kernel
theorem dX12_brave_43 : decode cX12_brave 43 = .ok (.invokevirtual 467, 3) := by decide +kernel
theorem dX12_brave_46 : decode cX12_brave 46 = .ok (.istore 4, 2) := by decide +kernel
theorem dX12_brave_48 : decode cX12_brave 48 = .ok (.iconst 0, 1) := by decide +kernel
theorem dX12_brave_49 : decode cX12_brave 49 = .ok (.istore 5, 2) := by decide +kernel
theorem dX12_brave_51 : decode cX12_brave 51 = .ok (.iconst 0, 1) := by decide +kernel
theorem dX12_brave_52 : decode cX12_brave 52 = .ok (.istore 6, 2) := by decide +kernel
theorem dX12_brave_54 : decode cX12_brave 54 = .ok (.iload 6, 2) := by decide +kernel
theorem dX12_brave_56 : decode cX12_brave 56 = .ok (.aload_n 0, 1) := by decide +kernel
theorem dX12_brave_57 : decode cX12_brave 57 = .ok (.getfield 287, 3) := by decide +kernel
theorem dX12_brave_60 : decode cX12_brave 60 = .ok (.if_icmp .ge 40, 3) := by decide +kernel
theorem dX12_brave_63 : decode cX12_brave 63 = .ok (.iload 5, 2) := by decide +kernel
theorem dX12_brave_65 : decode cX12_brave 65 = .ok (.aload_n 0, 1) := by decide +kernel
theorem dX12_brave_66 : decode cX12_brave 66 = .ok (.getfield 41, 3) := by decide +kernel
theorem dX12_brave_69 : decode cX12_brave 69 = .ok (.iload 6, 2) := by decide +kernel
theorem dX12_brave_71 : decode cX12_brave 71 = .ok (.iaload, 1) := by decide +kernel
theorem dX12_brave_72 : decode cX12_brave 72 = .ok (.iload_n 3, 1) := by decide +kernel
theorem dX12_brave_73 : decode cX12_brave 73 = .ok (.if_icmp .ne 17, 3) := by decide +kernel
theorem dX12_brave_76 : decode cX12_brave 76 = .ok (.aload_n 0, 1) := by decide +kernel
theorem dX12_brave_77 : decode cX12_brave 77 = .ok (.getfield 123, 3) := by decide +kernel
theorem dX12_brave_80 : decode cX12_brave 80 = .ok (.iload 6, 2) := by decide +kernel
theorem dX12_brave_82 : decode cX12_brave 82 = .ok (.baload, 1) := by decide +kernel
theorem dX12_brave_83 : decode cX12_brave 83 = .ok (.ifCond .eq 7, 3) := by decide +kernel
theorem dX12_brave_86 : decode cX12_brave 86 = .ok (.iconst 1, 1) := by decide +kernel
theorem dX12_brave_87 : decode cX12_brave 87 = .ok (.goto 4, 3) := by decide +kernel
theorem dX12_brave_90 : decode cX12_brave 90 = .ok (.iconst 0, 1) := by decide +kernel
theorem dX12_brave_91 : decode cX12_brave 91 = .ok (.iadd, 1) := by decide +kernel
theorem dX12_brave_92 : decode cX12_brave 92 = .ok (.istore 5, 2) := by decide +kernel
theorem dX12_brave_94 : decode cX12_brave 94 = .ok (.iinc 6 1, 3) := by decide +kernel
theorem dX12_brave_97 : decode cX12_brave 97 = .ok (.goto (-43), 3) := by decide +kernel
theorem dX12_brave_100 : decode cX12_brave 100 = .ok (.iload 5, 2) := by decide +kernel
theorem dX12_brave_102 : decode cX12_brave 102 = .ok (.ireturn, 1) := by decide +kernel
theorem dX12_rulesOf_0 : decode cX12_rulesOf 0 = .ok (.iconst 1, 1) := by decide +kernel
theorem dX12_rulesOf_1 : decode cX12_rulesOf 1 = .ok (.istore_n 1, 1) := by decide +kernel
theorem dX12_rulesOf_2 : decode cX12_rulesOf 2 = .ok (.iconst 0, 1) := by decide +kernel
theorem dX12_rulesOf_3 : decode cX12_rulesOf 3 = .ok (.istore_n 2, 1) := by decide +kernel
theorem dX12_rulesOf_4 : decode cX12_rulesOf 4 = .ok (.iload_n 2, 1) := by decide +kernel
theorem dX12_rulesOf_5 : decode cX12_rulesOf 5 = .ok (.iload_n 0, 1) := by decide +kernel
theorem dX12_rulesOf_6 : decode cX12_rulesOf 6 = .ok (.if_icmp .ge 14, 3) := by decide +kernel
theorem dX12_rulesOf_9 : decode cX12_rulesOf 9 = .ok (.iload_n 1, 1) := by decide +kernel
theorem dX12_rulesOf_10 : decode cX12_rulesOf 10 = .ok (.bipush 10, 2) := by decide +kernel
theorem dX12_rulesOf_12 : decode cX12_rulesOf 12 = .ok (.imul, 1) := by decide +kernel
theorem dX12_rulesOf_13 : decode cX12_rulesOf 13 = .ok (.istore_n 1, 1) := by decide +kernel
theorem dX12_rulesOf_14 : decode cX12_rulesOf 14 = .ok (.iinc 2 1, 3) := by decide +kernel
theorem dX12_rulesOf_17 : decode cX12_rulesOf 17 = .ok (.goto (-13), 3) := by decide +kernel
theorem dX12_rulesOf_20 : decode cX12_rulesOf 20 = .ok (.iload_n 1, 1) := by decide +kernel
theorem dX12_rulesOf_21 : decode cX12_rulesOf 21 = .ok (.ireturn, 1) := by decide +kernel
theorem dX12_layNumber_0 : decode cX12_layNumber 0 = .ok (.aload_n 0, 1) := by decide +kernel
theorem dX12_layNumber_1 : decode cX12_layNumber 1 = .ok (.getfield 75, 3) := by decide +kernel
theorem dX12_layNumber_4 : decode cX12_layNumber 4 = .ok (.iconst 0, 1) := by decide +kernel
theorem dX12_layNumber_5 : decode cX12_layNumber 5 = .ok (.iload_n 1, 1) := by decide +kernel
theorem dX12_layNumber_6 : decode cX12_layNumber 6 = .ok (.iastore, 1) := by decide +kernel
theorem dX12_layNumber_7 : decode cX12_layNumber 7 = .ok (.iload_n 2, 1) := by decide +kernel
theorem dX12_layNumber_8 : decode cX12_layNumber 8 = .ok (.istore_n 3, 1) := by decide +kernel
theorem dX12_layNumber_9 : decode cX12_layNumber 9 = .ok (.iload_n 1, 1) := by decide +kernel
theorem dX12_layNumber_10 : decode cX12_layNumber 10 = .ok (.istore 4, 2) := by decide +kernel
theorem dX12_layNumber_12 : decode cX12_layNumber 12 = .ok (.iload 4, 2) := by decide +kernel
theorem dX12_layNumber_14 : decode cX12_layNumber 14 = .ok (.ifCond .le 25, 3) := by decide +kernel
theorem dX12_layNumber_17 : decode cX12_layNumber 17 = .ok (.aload_n 0, 1) := by decide +kernel
theorem dX12_layNumber_18 : decode cX12_layNumber 18 = .ok (.getfield 75, 3) := by decide +kernel
theorem dX12_layNumber_21 : decode cX12_layNumber 21 = .ok (.iload 4, 2) := by decide +kernel
theorem dX12_layNumber_23 : decode cX12_layNumber 23 = .ok (.iload_n 3, 1) := by decide +kernel
theorem dX12_layNumber_24 : decode cX12_layNumber 24 = .ok (.bipush 10, 2) := by decide +kernel
theorem dX12_layNumber_26 : decode cX12_layNumber 26 = .ok (.irem, 1) := by decide +kernel
theorem dX12_layNumber_27 : decode cX12_layNumber 27 = .ok (.iastore, 1) := by decide +kernel
theorem dX12_layNumber_28 : decode cX12_layNumber 28 = .ok (.iload_n 3, 1) := by decide +kernel
theorem dX12_layNumber_29 : decode cX12_layNumber 29 = .ok (.bipush 10, 2) := by decide +kernel
theorem dX12_layNumber_31 : decode cX12_layNumber 31 = .ok (.idiv, 1) := by decide +kernel
theorem dX12_layNumber_32 : decode cX12_layNumber 32 = .ok (.istore_n 3, 1) := by decide +kernel
theorem dX12_layNumber_33 : decode cX12_layNumber 33 = .ok (.iinc 4 (-1), 3) := by decide +kernel
theorem dX12_layNumber_36 : decode cX12_layNumber 36 = .ok (.goto (-24), 3) := by decide +kernel
theorem dX12_layNumber_39 : decode cX12_layNumber 39 = .ok (.aload_n 0, 1) := by decide +kernel
theorem dX12_layNumber_40 : decode cX12_layNumber 40 = .ok (.getfield 60, 3) := by decide +kernel
theorem dX12_layNumber_43 : decode cX12_layNumber 43 = .ok (.iconst 0, 1) := by decide +kernel
theorem dX12_layNumber_44 : decode cX12_layNumber 44 = .ok (.iconst 0, 1) := by decide +kernel
theorem dX12_layNumber_45 : decode cX12_layNumber 45 = .ok (.iastore, 1) := by decide +kernel
theorem dX12_layNumber_46 : decode cX12_layNumber 46 = .ok (.return_, 1) := by decide +kernel
theorem dX12_ruleAt_0 : decode cX12_ruleAt 0 = .ok (.iload_n 1, 1) := by decide +kernel
theorem dX12_ruleAt_1 : decode cX12_ruleAt 1 = .ok (.ifCond .ne 12, 3) := by decide +kernel
theorem dX12_ruleAt_4 : decode cX12_ruleAt 4 = .ok (.aload_n 0, 1) := by decide +kernel
theorem dX12_ruleAt_5 : decode cX12_ruleAt 5 = .ok (.getfield 75, 3) := by decide +kernel
theorem dX12_ruleAt_8 : decode cX12_ruleAt 8 = .ok (.iconst 0, 1) := by decide +kernel
theorem dX12_ruleAt_9 : decode cX12_ruleAt 9 = .ok (.iaload, 1) := by decide +kernel
theorem dX12_ruleAt_10 : decode cX12_ruleAt 10 = .ok (.goto 27, 3) := by decide +kernel
theorem dX12_ruleAt_13 : decode cX12_ruleAt 13 = .ok (.iload_n 1, 1) := by decide +kernel
theorem dX12_ruleAt_14 : decode cX12_ruleAt 14 = .ok (.iconst 1, 1) := by decide +kernel
theorem dX12_ruleAt_15 : decode cX12_ruleAt 15 = .ok (.aload_n 0, 1) := by decide +kernel
theorem dX12_ruleAt_16 : decode cX12_ruleAt 16 = .ok (.getfield 75, 3) := by decide +kernel
theorem dX12_ruleAt_19 : decode cX12_ruleAt 19 = .ok (.iconst 0, 1) := by decide +kernel
theorem dX12_ruleAt_20 : decode cX12_ruleAt 20 = .ok (.iaload, 1) := by decide +kernel
theorem dX12_ruleAt_21 : decode cX12_ruleAt 21 = .ok (.invokestatic 165, 3) := by decide +kernel
theorem dX12_ruleAt_24 : decode cX12_ruleAt 24 = .ok (.ifCond .eq 12, 3) := by decide +kernel
theorem dX12_ruleAt_27 : decode cX12_ruleAt 27 = .ok (.aload_n 0, 1) := by decide +kernel
theorem dX12_ruleAt_28 : decode cX12_ruleAt 28 = .ok (.getfield 75, 3) := by decide +kernel
theorem dX12_ruleAt_31 : decode cX12_ruleAt 31 = .ok (.iload_n 1, 1) := by decide +kernel
theorem dX12_ruleAt_32 : decode cX12_ruleAt 32 = .ok (.iaload, 1) := by decide +kernel
theorem dX12_ruleAt_33 : decode cX12_ruleAt 33 = .ok (.goto 4, 3) := by decide +kernel
theorem dX12_ruleAt_36 : decode cX12_ruleAt 36 = .ok (.iconst (-1), 1) := by decide +kernel
theorem dX12_ruleAt_37 : decode cX12_ruleAt 37 = .ok (.ireturn, 1) := by decide +kernel
theorem dX12_isMan_0 : decode cX12_isMan 0 = .ok (.aload_n 0, 1) := by decide +kernel
theorem dX12_isMan_1 : decode cX12_isMan 1 = .ok (.iload_n 1, 1) := by decide +kernel
theorem dX12_isMan_2 : decode cX12_isMan 2 = .ok (.invokevirtual 302, 3) := by decide +kernel
theorem dX12_isMan_5 : decode cX12_isMan 5 = .ok (.ifCond .eq 21, 3) := by decide +kernel
theorem dX12_isMan_8 : decode cX12_isMan 8 = .ok (.iload_n 2, 1) := by decide +kernel
theorem dX12_isMan_9 : decode cX12_isMan 9 = .ok (.iconst 0, 1) := by decide +kernel
theorem dX12_isMan_10 : decode cX12_isMan 10 = .ok (.aload_n 0, 1) := by decide +kernel
theorem dX12_isMan_11 : decode cX12_isMan 11 = .ok (.getfield 287, 3) := by decide +kernel
theorem dX12_isMan_14 : decode cX12_isMan 14 = .ok (.iconst 1, 1) := by decide +kernel
theorem dX12_isMan_15 : decode cX12_isMan 15 = .ok (.isub, 1) := by decide +kernel
theorem dX12_isMan_16 : decode cX12_isMan 16 = .ok (.invokestatic 165, 3) := by decide +kernel
theorem dX12_isMan_19 : decode cX12_isMan 19 = .ok (.ifCond .eq 7, 3) := by decide +kernel
theorem dX12_isMan_22 : decode cX12_isMan 22 = .ok (.iconst 1, 1) := by decide +kernel
theorem dX12_isMan_23 : decode cX12_isMan 23 = .ok (.goto 4, 3) := by decide +kernel
theorem dX12_isMan_26 : decode cX12_isMan 26 = .ok (.iconst 0, 1) := by decide +kernel
theorem dX12_isMan_27 : decode cX12_isMan 27 = .ok (.ireturn, 1) := by decide +kernel
theorem dX12_findRule_0 : decode cX12_findRule 0 = .ok (.iconst 1, 1) := by decide +kernel
theorem dX12_findRule_1 : decode cX12_findRule 1 = .ok (.istore 5, 2) := by decide +kernel
theorem dX12_findRule_3 : decode cX12_findRule 3 = .ok (.iload 5, 2) := by decide +kernel
theorem dX12_findRule_5 : decode cX12_findRule 5 = .ok (.iconst 4, 1) := by decide +kernel
theorem dX12_findRule_6 : decode cX12_findRule 6 = .ok (.if_icmp .gt 131, 3) := by decide +kernel
theorem dX12_findRule_9 : decode cX12_findRule 9 = .ok (.iconst 0, 1) := by decide +kernel
theorem dX12_findRule_10 : decode cX12_findRule 10 = .ok (.istore 6, 2) := by decide +kernel
theorem dX12_findRule_12 : decode cX12_findRule 12 = .ok (.iload 6, 2) := by decide +kernel
theorem dX12_findRule_14 : decode cX12_findRule 14 = .ok (.iload 5, 2) := by decide +kernel
theorem dX12_findRule_16 : decode cX12_findRule 16 = .ok (.invokestatic 483, 3) := by decide +kernel
theorem dX12_findRule_19 : decode cX12_findRule 19 = .ok (.if_icmp .ge 112, 3) := by decide +kernel
theorem dX12_findRule_22 : decode cX12_findRule 22 = .ok (.aload_n 0, 1) := by decide +kernel
theorem dX12_findRule_23 : decode cX12_findRule 23 = .ok (.iload 5, 2) := by decide +kernel
theorem dX12_findRule_25 : decode cX12_findRule 25 = .ok (.iload 6, 2) := by decide +kernel
theorem dX12_findRule_27 : decode cX12_findRule 27 = .ok (.invokevirtual 486, 3) := by decide +kernel
theorem dX12_findRule_30 : decode cX12_findRule 30 = .ok (.aload_n 0, 1) := by decide +kernel
theorem dX12_findRule_31 : decode cX12_findRule 31 = .ok (.iload_n 1, 1) := by decide +kernel
theorem dX12_findRule_32 : decode cX12_findRule 32 = .ok (.invokevirtual 392, 3) := by decide +kernel
theorem dX12_findRule_35 : decode cX12_findRule 35 = .ok (.lstore 7, 2) := by decide +kernel
theorem dX12_findRule_37 : decode cX12_findRule 37 = .ok (.iload_n 2, 1) := by decide +kernel
theorem dX12_findRule_38 : decode cX12_findRule 38 = .ok (.ifCond .ne 18, 3) := by decide +kernel
theorem dX12_findRule_41 : decode cX12_findRule 41 = .ok (.lload 7, 2) := by decide +kernel
theorem dX12_findRule_43 : decode cX12_findRule 43 = .ok (.lconst 0, 1) := by decide +kernel
theorem dX12_findRule_44 : decode cX12_findRule 44 = .ok (.lcmp, 1) := by decide +kernel
theorem dX12_findRule_45 : decode cX12_findRule 45 = .ok (.ifCond .ne 7, 3) := by decide +kernel
theorem dX12_findRule_48 : decode cX12_findRule 48 = .ok (.iconst 1, 1) := by decide +kernel
theorem dX12_findRule_49 : decode cX12_findRule 49 = .ok (.goto 67, 3) := by decide +kernel
theorem dX12_findRule_52 : decode cX12_findRule 52 = .ok (.iconst 0, 1) := by decide +kernel
theorem dX12_findRule_53 : decode cX12_findRule 53 = .ok (.goto 63, 3) := by decide +kernel
theorem dX12_findRule_56 : decode cX12_findRule 56 = .ok (.iload_n 2, 1) := by decide +kernel
theorem dX12_findRule_57 : decode cX12_findRule 57 = .ok (.iconst 3, 1) := by decide +kernel
theorem dX12_findRule_58 : decode cX12_findRule 58 = .ok (.if_icmp .ne 18, 3) := by decide +kernel
theorem dX12_findRule_61 : decode cX12_findRule 61 = .ok (.lload 7, 2) := by decide +kernel
theorem dX12_findRule_63 : decode cX12_findRule 63 = .ok (.lload_n 3, 1) := by decide +kernel
theorem dX12_findRule_64 : decode cX12_findRule 64 = .ok (.lcmp, 1) := by decide +kernel
theorem dX12_findRule_65 : decode cX12_findRule 65 = .ok (.ifCond .ne 7, 3) := by decide +kernel
theorem dX12_findRule_68 : decode cX12_findRule 68 = .ok (.iconst 1, 1) := by decide +kernel
theorem dX12_findRule_69 : decode cX12_findRule 69 = .ok (.goto 47, 3) := by decide +kernel
theorem dX12_findRule_72 : decode cX12_findRule 72 = .ok (.iconst 0, 1) := by decide +kernel
theorem dX12_findRule_73 : decode cX12_findRule 73 = .ok (.goto 43, 3) := by decide +kernel
theorem dX12_findRule_76 : decode cX12_findRule 76 = .ok (.lload 7, 2) := by decide +kernel
theorem dX12_findRule_78 : decode cX12_findRule 78 = .ok (.lconst 0, 1) := by decide +kernel
theorem dX12_findRule_79 : decode cX12_findRule 79 = .ok (.lcmp, 1) := by decide +kernel
theorem dX12_findRule_80 : decode cX12_findRule 80 = .ok (.ifCond .eq 35, 3) := by decide +kernel
theorem dX12_findRule_83 : decode cX12_findRule 83 = .ok (.lload 7, 2) := by decide +kernel
theorem dX12_findRule_85 : decode cX12_findRule 85 = .ok (.iload_n 2, 1) := by decide +kernel
theorem dX12_findRule_86 : decode cX12_findRule 86 = .ok (.iconst 1, 1) := by decide +kernel
theorem dX12_findRule_87 : decode cX12_findRule 87 = .ok (.if_icmp .ne 10, 3) := by decide +kernel
theorem dX12_findRule_90 : decode cX12_findRule 90 = .ok (.aload_n 0, 1) := by decide +kernel
theorem dX12_findRule_91 : decode cX12_findRule 91 = .ok (.getfield 293, 3) := by decide +kernel
theorem dX12_findRule_94 : decode cX12_findRule 94 = .ok (.goto 7, 3) := by decide +kernel
theorem dX12_findRule_97 : decode cX12_findRule 97 = .ok (.aload_n 0, 1) := by decide +kernel
theorem dX12_findRule_98 : decode cX12_findRule 98 = .ok (.getfield 315, 3) := by decide +kernel
theorem dX12_findRule_101 : decode cX12_findRule 101 = .ok (.ldc2_w 395, 3) := by decide +kernel
theorem dX12_findRule_104 : decode cX12_findRule 104 = .ok (.lxor, 1) := by decide +kernel
theorem dX12_findRule_105 : decode cX12_findRule 105 = .ok (.land, 1) := by decide +kernel
theorem dX12_findRule_106 : decode cX12_findRule 106 = .ok (.lconst 0, 1) := by decide +kernel
theorem dX12_findRule_107 : decode cX12_findRule 107 = .ok (.lcmp, 1) := by decide +kernel
theorem dX12_findRule_108 : decode cX12_findRule 108 = .ok (.ifCond .ne 7, 3) := by decide +kernel
theorem dX12_findRule_111 : decode cX12_findRule 111 = .ok (.iconst 1, 1) := by decide +kernel
theorem dX12_findRule_112 : decode cX12_findRule 112 = .ok (.goto 4, 3) := by decide +kernel
theorem dX12_findRule_115 : decode cX12_findRule 115 = .ok (.iconst 0, 1) := by decide +kernel
theorem dX12_findRule_116 : decode cX12_findRule 116 = .ok (.istore 9, 2) := by decide +kernel
theorem dX12_findRule_118 : decode cX12_findRule 118 = .ok (.iload 9, 2) := by decide +kernel
theorem dX12_findRule_120 : decode cX12_findRule 120 = .ok (.ifCond .eq 5, 3) := by decide +kernel
theorem dX12_findRule_123 : decode cX12_findRule 123 = .ok (.iconst 1, 1) := by decide +kernel
theorem dX12_findRule_124 : decode cX12_findRule 124 = .ok (.ireturn, 1) := by decide +kernel
theorem dX12_findRule_125 : decode cX12_findRule 125 = .ok (.iinc 6 1, 3) := by decide +kernel
theorem dX12_findRule_128 : decode cX12_findRule 128 = .ok (.goto (-116), 3) := by decide +kernel
theorem dX12_findRule_131 : decode cX12_findRule 131 = .ok (.iinc 5 1, 3) := by decide +kernel
theorem dX12_findRule_134 : decode cX12_findRule 134 = .ok (.goto (-131), 3) := by decide +kernel
theorem dX12_findRule_137 : decode cX12_findRule 137 = .ok (.iconst 0, 1) := by decide +kernel
theorem dX12_findRule_138 : decode cX12_findRule 138 = .ok (.ireturn, 1) := by decide +kernel
theorem dX12_binds_0 : decode cX12_binds 0 = .ok (.aload_n 0, 1) := by decide +kernel
theorem dX12_binds_1 : decode cX12_binds 1 = .ok (.iconst 0, 1) := by decide +kernel
theorem dX12_binds_2 : decode cX12_binds 2 = .ok (.putfield 157, 3) := by decide +kernel
theorem dX12_binds_5 : decode cX12_binds 5 = .ok (.aload_n 0, 1) := by decide +kernel
theorem dX12_binds_6 : decode cX12_binds 6 = .ok (.iload_n 1, 1) := by decide +kernel
theorem dX12_binds_7 : decode cX12_binds 7 = .ok (.iload_n 2, 1) := by decide +kernel
theorem dX12_binds_8 : decode cX12_binds 8 = .ok (.invokevirtual 489, 3) := by decide +kernel
theorem dX12_binds_11 : decode cX12_binds 11 = .ok (.ifCond .eq 31, 3) := by decide +kernel
theorem dX12_binds_14 : decode cX12_binds 14 = .ok (.iload_n 3, 1) := by decide +kernel
theorem dX12_binds_15 : decode cX12_binds 15 = .ok (.iconst 0, 1) := by decide +kernel
theorem dX12_binds_16 : decode cX12_binds 16 = .ok (.iconst 2, 1) := by decide +kernel
theorem dX12_binds_17 : decode cX12_binds 17 = .ok (.invokestatic 165, 3) := by decide +kernel
theorem dX12_binds_20 : decode cX12_binds 20 = .ok (.ifCond .eq 22, 3) := by decide +kernel
theorem dX12_binds_23 : decode cX12_binds 23 = .ok (.aload_n 0, 1) := by decide +kernel
theorem dX12_binds_24 : decode cX12_binds 24 = .ok (.iload_n 2, 1) := by decide +kernel
theorem dX12_binds_25 : decode cX12_binds 25 = .ok (.iload_n 3, 1) := by decide +kernel
theorem dX12_binds_26 : decode cX12_binds 26 = .ok (.lconst 0, 1) := by decide +kernel
theorem dX12_binds_27 : decode cX12_binds 27 = .ok (.invokevirtual 492, 3) := by decide +kernel
theorem dX12_binds_30 : decode cX12_binds 30 = .ok (.ifCond .eq 12, 3) := by decide +kernel
theorem dX12_binds_33 : decode cX12_binds 33 = .ok (.aload_n 0, 1) := by decide +kernel
theorem dX12_binds_34 : decode cX12_binds 34 = .ok (.iload 4, 2) := by decide +kernel
theorem dX12_binds_36 : decode cX12_binds 36 = .ok (.invokevirtual 496, 3) := by decide +kernel
theorem dX12_binds_39 : decode cX12_binds 39 = .ok (.goto 4, 3) := by decide +kernel
theorem dX12_binds_42 : decode cX12_binds 42 = .ok (.iconst (-1), 1) := by decide +kernel
theorem dX12_binds_43 : decode cX12_binds 43 = .ok (.ireturn, 1) := by decide +kernel
theorem dX12_drive_0 : decode cX12_drive 0 = .ok (.aload_n 0, 1) := by decide +kernel
theorem dX12_drive_1 : decode cX12_drive 1 = .ok (.iconst 0, 1) := by decide +kernel
theorem dX12_drive_2 : decode cX12_drive 2 = .ok (.putfield 157, 3) := by decide +kernel
theorem dX12_drive_5 : decode cX12_drive 5 = .ok (.aload_n 0, 1) := by decide +kernel
theorem dX12_drive_6 : decode cX12_drive 6 = .ok (.iload_n 1, 1) := by decide +kernel
theorem dX12_drive_7 : decode cX12_drive 7 = .ok (.iload_n 2, 1) := by decide +kernel
theorem dX12_drive_8 : decode cX12_drive 8 = .ok (.invokevirtual 489, 3) := by decide +kernel
theorem dX12_drive_11 : decode cX12_drive 11 = .ok (.ifCond .eq 38, 3) := by decide +kernel
theorem dX12_drive_14 : decode cX12_drive 14 = .ok (.iload_n 3, 1) := by decide +kernel
theorem dX12_drive_15 : decode cX12_drive 15 = .ok (.iconst 0, 1) := by decide +kernel
theorem dX12_drive_16 : decode cX12_drive 16 = .ok (.aload_n 0, 1) := by decide +kernel
theorem dX12_drive_17 : decode cX12_drive 17 = .ok (.getfield 284, 3) := by decide +kernel
theorem dX12_drive_20 : decode cX12_drive 20 = .ok (.iconst 1, 1) := by decide +kernel
theorem dX12_drive_21 : decode cX12_drive 21 = .ok (.isub, 1) := by decide +kernel
theorem dX12_drive_22 : decode cX12_drive 22 = .ok (.invokestatic 165, 3) := by decide +kernel
theorem dX12_drive_25 : decode cX12_drive 25 = .ok (.ifCond .eq 24, 3) := by decide +kernel
theorem dX12_drive_28 : decode cX12_drive 28 = .ok (.aload_n 0, 1) := by decide +kernel
theorem dX12_drive_29 : decode cX12_drive 29 = .ok (.iload_n 2, 1) := by decide +kernel
theorem dX12_drive_30 : decode cX12_drive 30 = .ok (.iconst 3, 1) := by decide +kernel
theorem dX12_drive_31 : decode cX12_drive 31 = .ok (.lconst 1, 1) := by decide +kernel
theorem dX12_drive_32 : decode cX12_drive 32 = .ok (.iload_n 3, 1) := by decide +kernel
theorem dX12_drive_33 : decode cX12_drive 33 = .ok (.lshl, 1) := by decide +kernel
theorem dX12_drive_34 : decode cX12_drive 34 = .ok (.invokevirtual 492, 3) := by decide +kernel
theorem dX12_drive_37 : decode cX12_drive 37 = .ok (.ifCond .eq 12, 3) := by decide +kernel
theorem dX12_drive_40 : decode cX12_drive 40 = .ok (.aload_n 0, 1) := by decide +kernel
theorem dX12_drive_41 : decode cX12_drive 41 = .ok (.iload 4, 2) := by decide +kernel
theorem dX12_drive_43 : decode cX12_drive 43 = .ok (.invokevirtual 496, 3) := by decide +kernel
theorem dX12_drive_46 : decode cX12_drive 46 = .ok (.goto 4, 3) := by decide +kernel
theorem dX12_drive_49 : decode cX12_drive 49 = .ok (.iconst (-1), 1) := by decide +kernel
theorem dX12_drive_50 : decode cX12_drive 50 = .ok (.ireturn, 1) := by decide +kernel
theorem dX12_shorter_0 : decode cX12_shorter 0 = .ok (.aload_n 0, 1) := by decide +kernel
theorem dX12_shorter_1 : decode cX12_shorter 1 = .ok (.iconst 0, 1) := by decide +kernel
theorem dX12_shorter_2 : decode cX12_shorter 2 = .ok (.putfield 157, 3) := by decide +kernel
theorem dX12_shorter_5 : decode cX12_shorter 5 = .ok (.aload_n 0, 1) := by decide +kernel
theorem dX12_shorter_6 : decode cX12_shorter 6 = .ok (.iload_n 1, 1) := by decide +kernel
theorem dX12_shorter_7 : decode cX12_shorter 7 = .ok (.iload_n 2, 1) := by decide +kernel
theorem dX12_shorter_8 : decode cX12_shorter 8 = .ok (.iload_n 3, 1) := by decide +kernel
theorem dX12_shorter_9 : decode cX12_shorter 9 = .ok (.invokevirtual 389, 3) := by decide +kernel
theorem dX12_shorter_12 : decode cX12_shorter 12 = .ok (.ifCond .ne 5, 3) := by decide +kernel
theorem dX12_shorter_15 : decode cX12_shorter 15 = .ok (.iconst (-1), 1) := by decide +kernel
theorem dX12_shorter_16 : decode cX12_shorter 16 = .ok (.ireturn, 1) := by decide +kernel
theorem dX12_shorter_17 : decode cX12_shorter 17 = .ok (.aload_n 0, 1) := by decide +kernel
theorem dX12_shorter_18 : decode cX12_shorter 18 = .ok (.iload_n 2, 1) := by decide +kernel
theorem dX12_shorter_19 : decode cX12_shorter 19 = .ok (.iconst 3, 1) := by decide +kernel
theorem dX12_shorter_20 : decode cX12_shorter 20 = .ok (.aload_n 0, 1) := by decide +kernel
theorem dX12_shorter_21 : decode cX12_shorter 21 = .ok (.iload_n 2, 1) := by decide +kernel
theorem dX12_shorter_22 : decode cX12_shorter 22 = .ok (.invokevirtual 392, 3) := by decide +kernel
theorem dX12_shorter_25 : decode cX12_shorter 25 = .ok (.invokevirtual 492, 3) := by decide +kernel
theorem dX12_shorter_28 : decode cX12_shorter 28 = .ok (.ifCond .eq 12, 3) := by decide +kernel
theorem dX12_shorter_31 : decode cX12_shorter 31 = .ok (.aload_n 0, 1) := by decide +kernel
theorem dX12_shorter_32 : decode cX12_shorter 32 = .ok (.iload 4, 2) := by decide +kernel
theorem dX12_shorter_34 : decode cX12_shorter 34 = .ok (.invokevirtual 496, 3) := by decide +kernel
theorem dX12_shorter_37 : decode cX12_shorter 37 = .ok (.goto 4, 3) := by decide +kernel
theorem dX12_shorter_40 : decode cX12_shorter 40 = .ok (.iconst (-1), 1) := by decide +kernel
theorem dX12_shorter_41 : decode cX12_shorter 41 = .ok (.ireturn, 1) := by decide +kernel
theorem dX12_endsAlone_0 : decode cX12_endsAlone 0 = .ok (.aload_n 0, 1) := by decide +kernel
theorem dX12_endsAlone_1 : decode cX12_endsAlone 1 = .ok (.getfield 41, 3) := by decide +kernel
theorem dX12_endsAlone_4 : decode cX12_endsAlone 4 = .ok (.aload_n 0, 1) := by decide +kernel
theorem dX12_endsAlone_5 : decode cX12_endsAlone 5 = .ok (.getfield 287, 3) := by decide +kernel
theorem dX12_endsAlone_8 : decode cX12_endsAlone 8 = .ok (.iconst 0, 1) := by decide +kernel
theorem dX12_endsAlone_9 : decode cX12_endsAlone 9 = .ok (.iastore, 1) := by decide +kernel
theorem dX12_endsAlone_10 : decode cX12_endsAlone 10 = .ok (.aload_n 0, 1) := by decide +kernel
theorem dX12_endsAlone_11 : decode cX12_endsAlone 11 = .ok (.getfield 44, 3) := by decide +kernel
theorem dX12_endsAlone_14 : decode cX12_endsAlone 14 = .ok (.aload_n 0, 1) := by decide +kernel
theorem dX12_endsAlone_15 : decode cX12_endsAlone 15 = .ok (.getfield 287, 3) := by decide +kernel
theorem dX12_endsAlone_18 : decode cX12_endsAlone 18 = .ok (.iload_n 2, 1) := by decide +kernel
theorem dX12_endsAlone_19 : decode cX12_endsAlone 19 = .ok (.iastore, 1) := by decide +kernel
theorem dX12_endsAlone_20 : decode cX12_endsAlone 20 = .ok (.aload_n 0, 1) := by decide +kernel
theorem dX12_endsAlone_21 : decode cX12_endsAlone 21 = .ok (.iload_n 1, 1) := by decide +kernel
theorem dX12_endsAlone_22 : decode cX12_endsAlone 22 = .ok (.invokevirtual 386, 3) := by decide +kernel
theorem dX12_endsAlone_25 : decode cX12_endsAlone 25 = .ok (.aload_n 0, 1) := by decide +kernel
theorem dX12_endsAlone_26 : decode cX12_endsAlone 26 = .ok (.dup, 1) := by decide +kernel
theorem dX12_endsAlone_27 : decode cX12_endsAlone 27 = .ok (.getfield 287, 3) := by decide +kernel
theorem dX12_endsAlone_30 : decode cX12_endsAlone 30 = .ok (.iconst 1, 1) := by decide +kernel
theorem dX12_endsAlone_31 : decode cX12_endsAlone 31 = .ok (.iadd, 1) := by decide +kernel
theorem dX12_endsAlone_32 : decode cX12_endsAlone 32 = .ok (.putfield 287, 3) := by decide +kernel
theorem dX12_endsAlone_35 : decode cX12_endsAlone 35 = .ok (.aload_n 0, 1) := by decide +kernel
theorem dX12_endsAlone_36 : decode cX12_endsAlone 36 = .ok (.aload_n 0, 1) := by decide +kernel
theorem dX12_endsAlone_37 : decode cX12_endsAlone 37 = .ok (.getfield 287, 3) := by decide +kernel
theorem dX12_endsAlone_40 : decode cX12_endsAlone 40 = .ok (.iconst 1, 1) := by decide +kernel
theorem dX12_endsAlone_41 : decode cX12_endsAlone 41 = .ok (.isub, 1) := by decide +kernel
theorem dX12_endsAlone_42 : decode cX12_endsAlone 42 = .ok (.invokevirtual 392, 3) := by decide +kernel
theorem dX12_endsAlone_45 : decode cX12_endsAlone 45 = .ok (.lstore_n 3, 1) := by decide +kernel
theorem dX12_endsAlone_46 : decode cX12_endsAlone 46 = .ok (.aload_n 0, 1) := by decide +kernel
theorem dX12_endsAlone_47 : decode cX12_endsAlone 47 = .ok (.dup, 1) := by decide +kernel
theorem dX12_endsAlone_48 : decode cX12_endsAlone 48 = .ok (.getfield 287, 3) := by decide +kernel
theorem dX12_endsAlone_51 : decode cX12_endsAlone 51 = .ok (.iconst 1, 1) := by decide +kernel
theorem dX12_endsAlone_52 : decode cX12_endsAlone 52 = .ok (.isub, 1) := by decide +kernel
theorem dX12_endsAlone_53 : decode cX12_endsAlone 53 = .ok (.putfield 287, 3) := by decide +kernel
theorem dX12_endsAlone_56 : decode cX12_endsAlone 56 = .ok (.lload_n 3, 1) := by decide +kernel
theorem dX12_endsAlone_57 : decode cX12_endsAlone 57 = .ok (.lreturn, 1) := by decide +kernel
theorem dX12_alike_0 : decode cX12_alike 0 = .ok (.aload_n 0, 1) := by decide +kernel
theorem dX12_alike_1 : decode cX12_alike 1 = .ok (.iconst 0, 1) := by decide +kernel
theorem dX12_alike_2 : decode cX12_alike 2 = .ok (.putfield 157, 3) := by decide +kernel
theorem dX12_alike_5 : decode cX12_alike 5 = .ok (.aload_n 0, 1) := by decide +kernel
theorem dX12_alike_6 : decode cX12_alike 6 = .ok (.iconst 1, 1) := by decide +kernel
theorem dX12_alike_7 : decode cX12_alike 7 = .ok (.iload_n 2, 1) := by decide +kernel
theorem dX12_alike_8 : decode cX12_alike 8 = .ok (.invokevirtual 268, 3) := by decide +kernel
theorem dX12_alike_11 : decode cX12_alike 11 = .ok (.ifCond .eq 20, 3) := by decide +kernel
theorem dX12_alike_14 : decode cX12_alike 14 = .ok (.aload_n 0, 1) := by decide +kernel
theorem dX12_alike_15 : decode cX12_alike 15 = .ok (.iconst 1, 1) := by decide +kernel
theorem dX12_alike_16 : decode cX12_alike 16 = .ok (.iload_n 3, 1) := by decide +kernel
theorem dX12_alike_17 : decode cX12_alike 17 = .ok (.invokevirtual 268, 3) := by decide +kernel
theorem dX12_alike_20 : decode cX12_alike 20 = .ok (.ifCond .eq 11, 3) := by decide +kernel
theorem dX12_alike_23 : decode cX12_alike 23 = .ok (.aload_n 0, 1) := by decide +kernel
theorem dX12_alike_24 : decode cX12_alike 24 = .ok (.iload_n 1, 1) := by decide +kernel
theorem dX12_alike_25 : decode cX12_alike 25 = .ok (.invokevirtual 302, 3) := by decide +kernel
theorem dX12_alike_28 : decode cX12_alike 28 = .ok (.ifCond .ne 5, 3) := by decide +kernel
theorem dX12_alike_31 : decode cX12_alike 31 = .ok (.iconst 0, 1) := by decide +kernel
theorem dX12_alike_32 : decode cX12_alike 32 = .ok (.ireturn, 1) := by decide +kernel
theorem dX12_alike_33 : decode cX12_alike 33 = .ok (.iconst 0, 1) := by decide +kernel
theorem dX12_alike_34 : decode cX12_alike 34 = .ok (.istore 4, 2) := by decide +kernel
theorem dX12_alike_36 : decode cX12_alike 36 = .ok (.iload 4, 2) := by decide +kernel
theorem dX12_alike_38 : decode cX12_alike 38 = .ok (.aload_n 0, 1) := by decide +kernel
theorem dX12_alike_39 : decode cX12_alike 39 = .ok (.getfield 284, 3) := by decide +kernel
theorem dX12_alike_42 : decode cX12_alike 42 = .ok (.if_icmp .ge 56, 3) := by decide +kernel
theorem dX12_alike_45 : decode cX12_alike 45 = .ok (.aload_n 0, 1) := by decide +kernel
theorem dX12_alike_46 : decode cX12_alike 46 = .ok (.getfield 290, 3) := by decide +kernel
theorem dX12_alike_49 : decode cX12_alike 49 = .ok (.aload_n 0, 1) := by decide +kernel
theorem dX12_alike_50 : decode cX12_alike 50 = .ok (.getfield 293, 3) := by decide +kernel
theorem dX12_alike_53 : decode cX12_alike 53 = .ok (.lor, 1) := by decide +kernel
theorem dX12_alike_54 : decode cX12_alike 54 = .ok (.iload 4, 2) := by decide +kernel
theorem dX12_alike_56 : decode cX12_alike 56 = .ok (.invokestatic 299, 3) := by decide +kernel
theorem dX12_alike_59 : decode cX12_alike 59 = .ok (.ifCond .ne 33, 3) := by decide +kernel
theorem dX12_alike_62 : decode cX12_alike 62 = .ok (.aload_n 0, 1) := by decide +kernel
theorem dX12_alike_63 : decode cX12_alike 63 = .ok (.iload 4, 2) := by decide +kernel
theorem dX12_alike_65 : decode cX12_alike 65 = .ok (.invokevirtual 309, 3) := by decide +kernel
theorem dX12_alike_68 : decode cX12_alike 68 = .ok (.iconst (-1), 1) := by decide +kernel
theorem dX12_alike_69 : decode cX12_alike 69 = .ok (.if_icmp .ne 23, 3) := by decide +kernel
theorem dX12_alike_72 : decode cX12_alike 72 = .ok (.aload_n 0, 1) := by decide +kernel
theorem dX12_alike_73 : decode cX12_alike 73 = .ok (.iload_n 2, 1) := by decide +kernel
theorem dX12_alike_74 : decode cX12_alike 74 = .ok (.iload 4, 2) := by decide +kernel
theorem dX12_alike_76 : decode cX12_alike 76 = .ok (.invokevirtual 499, 3) := by decide +kernel
theorem dX12_alike_79 : decode cX12_alike 79 = .ok (.aload_n 0, 1) := by decide +kernel
theorem dX12_alike_80 : decode cX12_alike 80 = .ok (.iload_n 3, 1) := by decide +kernel
theorem dX12_alike_81 : decode cX12_alike 81 = .ok (.iload 4, 2) := by decide +kernel
theorem dX12_alike_83 : decode cX12_alike 83 = .ok (.invokevirtual 499, 3) := by decide +kernel
theorem dX12_alike_86 : decode cX12_alike 86 = .ok (.lcmp, 1) := by decide +kernel
theorem dX12_alike_87 : decode cX12_alike 87 = .ok (.ifCond .eq 5, 3) := by decide +kernel
theorem dX12_alike_90 : decode cX12_alike 90 = .ok (.iconst 0, 1) := by decide +kernel
theorem dX12_alike_91 : decode cX12_alike 91 = .ok (.ireturn, 1) := by decide +kernel
theorem dX12_alike_92 : decode cX12_alike 92 = .ok (.iinc 4 1, 3) := by decide +kernel
theorem dX12_alike_95 : decode cX12_alike 95 = .ok (.goto (-59), 3) := by decide +kernel
theorem dX12_alike_98 : decode cX12_alike 98 = .ok (.iconst 1, 1) := by decide +kernel
theorem dX12_alike_99 : decode cX12_alike 99 = .ok (.ireturn, 1) := by decide +kernel
theorem dX12_isNew_0 : decode cX12_isNew 0 = .ok (.lload_n 1, 1) := by decide +kernel
theorem dX12_isNew_1 : decode cX12_isNew 1 = .ok (.ldc2_w 503, 3) := by decide +kernel
theorem dX12_isNew_4 : decode cX12_isNew 4 = .ok (.lmul, 1) := by decide +kernel
theorem dX12_isNew_5 : decode cX12_isNew 5 = .ok (.bipush 50, 2) := by decide +kernel
theorem dX12_isNew_7 : decode cX12_isNew 7 = .ok (.lushr, 1) := by decide +kernel
theorem dX12_isNew_8 : decode cX12_isNew 8 = .ok (.l2i, 1) := by decide +kernel
theorem dX12_isNew_9 : decode cX12_isNew 9 = .ok (.istore_n 3, 1) := by decide +kernel
theorem dX12_isNew_10 : decode cX12_isNew 10 = .ok (.aload_n 0, 1) := by decide +kernel
theorem dX12_isNew_11 : decode cX12_isNew 11 = .ok (.getfield 133, 3) := by decide +kernel
theorem dX12_isNew_14 : decode cX12_isNew 14 = .ok (.iload_n 3, 1) := by decide +kernel
theorem dX12_isNew_15 : decode cX12_isNew 15 = .ok (.baload, 1) := by decide +kernel
theorem dX12_isNew_16 : decode cX12_isNew 16 = .ok (.ifCond .eq 27, 3) := by decide +kernel
theorem dX12_isNew_19 : decode cX12_isNew 19 = .ok (.aload_n 0, 1) := by decide +kernel
theorem dX12_isNew_20 : decode cX12_isNew 20 = .ok (.getfield 130, 3) := by decide +kernel
theorem dX12_isNew_23 : decode cX12_isNew 23 = .ok (.iload_n 3, 1) := by decide +kernel
theorem dX12_isNew_24 : decode cX12_isNew 24 = .ok (.laload, 1) := by decide +kernel
theorem dX12_isNew_25 : decode cX12_isNew 25 = .ok (.lload_n 1, 1) := by decide +kernel
theorem dX12_isNew_26 : decode cX12_isNew 26 = .ok (.lcmp, 1) := by decide +kernel
theorem dX12_isNew_27 : decode cX12_isNew 27 = .ok (.ifCond .ne 5, 3) := by decide +kernel
theorem dX12_isNew_30 : decode cX12_isNew 30 = .ok (.iconst 0, 1) := by decide +kernel
theorem dX12_isNew_31 : decode cX12_isNew 31 = .ok (.ireturn, 1) := by decide +kernel
theorem dX12_isNew_32 : decode cX12_isNew 32 = .ok (.iload_n 3, 1) := by decide +kernel
theorem dX12_isNew_33 : decode cX12_isNew 33 = .ok (.iconst 1, 1) := by decide +kernel
theorem dX12_isNew_34 : decode cX12_isNew 34 = .ok (.iadd, 1) := by decide +kernel
theorem dX12_isNew_35 : decode cX12_isNew 35 = .ok (.sipush 16384, 3) := by decide +kernel
theorem dX12_isNew_38 : decode cX12_isNew 38 = .ok (.irem, 1) := by decide +kernel
theorem dX12_isNew_39 : decode cX12_isNew 39 = .ok (.istore_n 3, 1) := by decide +kernel
theorem dX12_isNew_40 : decode cX12_isNew 40 = .ok (.goto (-30), 3) := by decide +kernel
theorem dX12_isNew_43 : decode cX12_isNew 43 = .ok (.aload_n 0, 1) := by decide +kernel
theorem dX12_isNew_44 : decode cX12_isNew 44 = .ok (.getfield 133, 3) := by decide +kernel
theorem dX12_isNew_47 : decode cX12_isNew 47 = .ok (.iload_n 3, 1) := by decide +kernel
theorem dX12_isNew_48 : decode cX12_isNew 48 = .ok (.iconst 1, 1) := by decide +kernel
theorem dX12_isNew_49 : decode cX12_isNew 49 = .ok (.bastore, 1) := by decide +kernel
theorem dX12_isNew_50 : decode cX12_isNew 50 = .ok (.aload_n 0, 1) := by decide +kernel
theorem dX12_isNew_51 : decode cX12_isNew 51 = .ok (.getfield 130, 3) := by decide +kernel
theorem dX12_isNew_54 : decode cX12_isNew 54 = .ok (.iload_n 3, 1) := by decide +kernel
theorem dX12_isNew_55 : decode cX12_isNew 55 = .ok (.lload_n 1, 1) := by decide +kernel
theorem dX12_isNew_56 : decode cX12_isNew 56 = .ok (.lastore, 1) := by decide +kernel
theorem dX12_isNew_57 : decode cX12_isNew 57 = .ok (.iconst 1, 1) := by decide +kernel
theorem dX12_isNew_58 : decode cX12_isNew 58 = .ok (.ireturn, 1) := by decide +kernel
theorem dX12_meanings_0 : decode cX12_meanings 0 = .ok (.aload_n 0, 1) := by decide +kernel
theorem dX12_meanings_1 : decode cX12_meanings 1 = .ok (.iconst 0, 1) := by decide +kernel
theorem dX12_meanings_2 : decode cX12_meanings 2 = .ok (.putfield 157, 3) := by decide +kernel
theorem dX12_meanings_5 : decode cX12_meanings 5 = .ok (.iload_n 3, 1) := by decide +kernel
theorem dX12_meanings_6 : decode cX12_meanings 6 = .ok (.iconst 1, 1) := by decide +kernel
theorem dX12_meanings_7 : decode cX12_meanings 7 = .ok (.iconst 4, 1) := by decide +kernel
theorem dX12_meanings_8 : decode cX12_meanings 8 = .ok (.invokestatic 165, 3) := by decide +kernel
theorem dX12_meanings_11 : decode cX12_meanings 11 = .ok (.ifCond .eq 12, 3) := by decide +kernel
theorem dX12_meanings_14 : decode cX12_meanings 14 = .ok (.aload_n 0, 1) := by decide +kernel
theorem dX12_meanings_15 : decode cX12_meanings 15 = .ok (.iload_n 1, 1) := by decide +kernel
theorem dX12_meanings_16 : decode cX12_meanings 16 = .ok (.iload_n 2, 1) := by decide +kernel
theorem dX12_meanings_17 : decode cX12_meanings 17 = .ok (.invokevirtual 489, 3) := by decide +kernel
theorem dX12_meanings_20 : decode cX12_meanings 20 = .ok (.ifCond .ne 5, 3) := by decide +kernel
theorem dX12_meanings_23 : decode cX12_meanings 23 = .ok (.iconst (-1), 1) := by decide +kernel
theorem dX12_meanings_24 : decode cX12_meanings 24 = .ok (.ireturn, 1) := by decide +kernel
theorem dX12_meanings_25 : decode cX12_meanings 25 = .ok (.iconst 0, 1) := by decide +kernel
theorem dX12_meanings_26 : decode cX12_meanings 26 = .ok (.istore 5, 2) := by decide +kernel
theorem dX12_meanings_28 : decode cX12_meanings 28 = .ok (.iload 5, 2) := by decide +kernel
theorem dX12_meanings_30 : decode cX12_meanings 30 = .ok (.sipush 16384, 3) := by decide +kernel
theorem dX12_meanings_33 : decode cX12_meanings 33 = .ok (.if_icmp .ge 17, 3) := by decide +kernel
theorem dX12_meanings_36 : decode cX12_meanings 36 = .ok (.aload_n 0, 1) := by decide +kernel
theorem dX12_meanings_37 : decode cX12_meanings 37 = .ok (.getfield 133, 3) := by decide +kernel
theorem dX12_meanings_40 : decode cX12_meanings 40 = .ok (.iload 5, 2) := by decide +kernel
theorem dX12_meanings_42 : decode cX12_meanings 42 = .ok (.iconst 0, 1) := by decide +kernel
theorem dX12_meanings_43 : decode cX12_meanings 43 = .ok (.bastore, 1) := by decide +kernel
theorem dX12_meanings_44 : decode cX12_meanings 44 = .ok (.iinc 5 1, 3) := by decide +kernel
theorem dX12_meanings_47 : decode cX12_meanings 47 = .ok (.goto (-19), 3) := by decide +kernel
theorem dX12_meanings_50 : decode cX12_meanings 50 = .ok (.lconst 0, 1) := by decide +kernel
theorem dX12_meanings_51 : decode cX12_meanings 51 = .ok (.lstore 5, 2) := by decide +kernel
theorem dX12_meanings_53 : decode cX12_meanings 53 = .ok (.iconst 0, 1) := by decide +kernel
theorem dX12_meanings_54 : decode cX12_meanings 54 = .ok (.istore 7, 2) := by decide +kernel
theorem dX12_meanings_56 : decode cX12_meanings 56 = .ok (.iconst 1, 1) := by decide +kernel
theorem dX12_meanings_57 : decode cX12_meanings 57 = .ok (.istore 8, 2) := by decide +kernel
theorem dX12_meanings_59 : decode cX12_meanings 59 = .ok (.iload 8, 2) := by decide +kernel
theorem dX12_meanings_61 : decode cX12_meanings 61 = .ok (.iload_n 3, 1) := by decide +kernel
theorem dX12_meanings_62 : decode cX12_meanings 62 = .ok (.if_icmp .gt 69, 3) := by decide +kernel
theorem dX12_meanings_65 : decode cX12_meanings 65 = .ok (.iconst 0, 1) := by decide +kernel
theorem dX12_meanings_66 : decode cX12_meanings 66 = .ok (.istore 9, 2) := by decide +kernel
theorem dX12_meanings_68 : decode cX12_meanings 68 = .ok (.iload 9, 2) := by decide +kernel
theorem dX12_meanings_70 : decode cX12_meanings 70 = .ok (.iload 8, 2) := by decide +kernel
theorem dX12_meanings_72 : decode cX12_meanings 72 = .ok (.invokestatic 483, 3) := by decide +kernel
theorem dX12_meanings_75 : decode cX12_meanings 75 = .ok (.if_icmp .ge 50, 3) := by decide +kernel
theorem dX12_meanings_78 : decode cX12_meanings 78 = .ok (.aload_n 0, 1) := by decide +kernel
theorem dX12_meanings_79 : decode cX12_meanings 79 = .ok (.iload 8, 2) := by decide +kernel
theorem dX12_meanings_81 : decode cX12_meanings 81 = .ok (.iload 9, 2) := by decide +kernel
theorem dX12_meanings_83 : decode cX12_meanings 83 = .ok (.invokevirtual 486, 3) := by decide +kernel
theorem dX12_meanings_86 : decode cX12_meanings 86 = .ok (.aload_n 0, 1) := by decide +kernel
theorem dX12_meanings_87 : decode cX12_meanings 87 = .ok (.iload_n 2, 1) := by decide +kernel
theorem dX12_meanings_88 : decode cX12_meanings 88 = .ok (.invokevirtual 392, 3) := by decide +kernel
theorem dX12_meanings_91 : decode cX12_meanings 91 = .ok (.lstore 10, 2) := by decide +kernel
theorem dX12_meanings_93 : decode cX12_meanings 93 = .ok (.lload 5, 2) := by decide +kernel
theorem dX12_meanings_95 : decode cX12_meanings 95 = .ok (.lload 10, 2) := by decide +kernel
theorem dX12_meanings_97 : decode cX12_meanings 97 = .ok (.lor, 1) := by decide +kernel
theorem dX12_meanings_98 : decode cX12_meanings 98 = .ok (.lstore 5, 2) := by decide +kernel
theorem dX12_meanings_100 : decode cX12_meanings 100 = .ok (.iload 7, 2) := by decide +kernel
theorem dX12_meanings_102 : decode cX12_meanings 102 = .ok (.aload_n 0, 1) := by decide +kernel
theorem dX12_meanings_103 : decode cX12_meanings 103 = .ok (.lload 10, 2) := by decide +kernel
theorem dX12_meanings_105 : decode cX12_meanings 105 = .ok (.invokevirtual 505, 3) := by decide +kernel
theorem dX12_meanings_108 : decode cX12_meanings 108 = .ok (.ifCond .eq 7, 3) := by decide +kernel
theorem dX12_meanings_111 : decode cX12_meanings 111 = .ok (.iconst 1, 1) := by decide +kernel
theorem dX12_meanings_112 : decode cX12_meanings 112 = .ok (.goto 4, 3) := by decide +kernel
theorem dX12_meanings_115 : decode cX12_meanings 115 = .ok (.iconst 0, 1) := by decide +kernel
theorem dX12_meanings_116 : decode cX12_meanings 116 = .ok (.iadd, 1) := by decide +kernel
theorem dX12_meanings_117 : decode cX12_meanings 117 = .ok (.istore 7, 2) := by decide +kernel
theorem dX12_meanings_119 : decode cX12_meanings 119 = .ok (.iinc 9 1, 3) := by decide +kernel
theorem dX12_meanings_122 : decode cX12_meanings 122 = .ok (.goto (-54), 3) := by decide +kernel
theorem dX12_meanings_125 : decode cX12_meanings 125 = .ok (.iinc 8 1, 3) := by decide +kernel
theorem dX12_meanings_128 : decode cX12_meanings 128 = .ok (.goto (-69), 3) := by decide +kernel
theorem dX12_meanings_131 : decode cX12_meanings 131 = .ok (.iload 4, 2) := by decide +kernel
theorem dX12_meanings_133 : decode cX12_meanings 133 = .ok (.ifCond .eq 11, 3) := by decide +kernel
theorem dX12_meanings_136 : decode cX12_meanings 136 = .ok (.lload 5, 2) := by decide +kernel
theorem dX12_meanings_138 : decode cX12_meanings 138 = .ok (.invokestatic 305, 3) := by decide +kernel
theorem dX12_meanings_141 : decode cX12_meanings 141 = .ok (.goto 5, 3) := by decide +kernel
theorem dX12_meanings_144 : decode cX12_meanings 144 = .ok (.iload 7, 2) := by decide +kernel
theorem dX12_meanings_146 : decode cX12_meanings 146 = .ok (.ireturn, 1) := by decide +kernel
theorem dX12_keepMen_0 : decode cX12_keepMen 0 = .ok (.iconst 0, 1) := by decide +kernel
theorem dX12_keepMen_1 : decode cX12_keepMen 1 = .ok (.istore_n 2, 1) := by decide +kernel
theorem dX12_keepMen_2 : decode cX12_keepMen 2 = .ok (.iload_n 2, 1) := by decide +kernel
theorem dX12_keepMen_3 : decode cX12_keepMen 3 = .ok (.bipush 6, 2) := by decide +kernel
theorem dX12_keepMen_5 : decode cX12_keepMen 5 = .ok (.if_icmp .ge 26, 3) := by decide +kernel
theorem dX12_keepMen_8 : decode cX12_keepMen 8 = .ok (.aload_n 0, 1) := by decide +kernel
theorem dX12_keepMen_9 : decode cX12_keepMen 9 = .ok (.getfield 142, 3) := by decide +kernel
theorem dX12_keepMen_12 : decode cX12_keepMen 12 = .ok (.bipush 6, 2) := by decide +kernel
theorem dX12_keepMen_14 : decode cX12_keepMen 14 = .ok (.iload_n 1, 1) := by decide +kernel
theorem dX12_keepMen_15 : decode cX12_keepMen 15 = .ok (.imul, 1) := by decide +kernel
theorem dX12_keepMen_16 : decode cX12_keepMen 16 = .ok (.iload_n 2, 1) := by decide +kernel
theorem dX12_keepMen_17 : decode cX12_keepMen 17 = .ok (.iadd, 1) := by decide +kernel
theorem dX12_keepMen_18 : decode cX12_keepMen 18 = .ok (.aload_n 0, 1) := by decide +kernel
theorem dX12_keepMen_19 : decode cX12_keepMen 19 = .ok (.getfield 44, 3) := by decide +kernel
theorem dX12_keepMen_22 : decode cX12_keepMen 22 = .ok (.iload_n 2, 1) := by decide +kernel
theorem dX12_keepMen_23 : decode cX12_keepMen 23 = .ok (.iaload, 1) := by decide +kernel
theorem dX12_keepMen_24 : decode cX12_keepMen 24 = .ok (.iastore, 1) := by decide +kernel
theorem dX12_keepMen_25 : decode cX12_keepMen 25 = .ok (.iinc 2 1, 3) := by decide +kernel
theorem dX12_keepMen_28 : decode cX12_keepMen 28 = .ok (.goto (-26), 3) := by decide +kernel
theorem dX12_keepMen_31 : decode cX12_keepMen 31 = .ok (.aload_n 0, 1) := by decide +kernel
theorem dX12_keepMen_32 : decode cX12_keepMen 32 = .ok (.getfield 145, 3) := by decide +kernel
theorem dX12_keepMen_35 : decode cX12_keepMen 35 = .ok (.iconst 2, 1) := by decide +kernel
theorem dX12_keepMen_36 : decode cX12_keepMen 36 = .ok (.iload_n 1, 1) := by decide +kernel
theorem dX12_keepMen_37 : decode cX12_keepMen 37 = .ok (.imul, 1) := by decide +kernel
theorem dX12_keepMen_38 : decode cX12_keepMen 38 = .ok (.aload_n 0, 1) := by decide +kernel
theorem dX12_keepMen_39 : decode cX12_keepMen 39 = .ok (.getfield 47, 3) := by decide +kernel
theorem dX12_keepMen_42 : decode cX12_keepMen 42 = .ok (.iconst 0, 1) := by decide +kernel
theorem dX12_keepMen_43 : decode cX12_keepMen 43 = .ok (.iaload, 1) := by decide +kernel
theorem dX12_keepMen_44 : decode cX12_keepMen 44 = .ok (.iastore, 1) := by decide +kernel
theorem dX12_keepMen_45 : decode cX12_keepMen 45 = .ok (.aload_n 0, 1) := by decide +kernel
theorem dX12_keepMen_46 : decode cX12_keepMen 46 = .ok (.getfield 145, 3) := by decide +kernel
theorem dX12_keepMen_49 : decode cX12_keepMen 49 = .ok (.iconst 2, 1) := by decide +kernel
theorem dX12_keepMen_50 : decode cX12_keepMen 50 = .ok (.iload_n 1, 1) := by decide +kernel
theorem dX12_keepMen_51 : decode cX12_keepMen 51 = .ok (.imul, 1) := by decide +kernel
theorem dX12_keepMen_52 : decode cX12_keepMen 52 = .ok (.iconst 1, 1) := by decide +kernel
theorem dX12_keepMen_53 : decode cX12_keepMen 53 = .ok (.iadd, 1) := by decide +kernel
theorem dX12_keepMen_54 : decode cX12_keepMen 54 = .ok (.aload_n 0, 1) := by decide +kernel
theorem dX12_keepMen_55 : decode cX12_keepMen 55 = .ok (.getfield 47, 3) := by decide +kernel
theorem dX12_keepMen_58 : decode cX12_keepMen 58 = .ok (.iconst 1, 1) := by decide +kernel
theorem dX12_keepMen_59 : decode cX12_keepMen 59 = .ok (.iaload, 1) := by decide +kernel
theorem dX12_keepMen_60 : decode cX12_keepMen 60 = .ok (.iastore, 1) := by decide +kernel
theorem dX12_keepMen_61 : decode cX12_keepMen 61 = .ok (.aload_n 0, 1) := by decide +kernel
theorem dX12_keepMen_62 : decode cX12_keepMen 62 = .ok (.getfield 148, 3) := by decide +kernel
theorem dX12_keepMen_65 : decode cX12_keepMen 65 = .ok (.iload_n 1, 1) := by decide +kernel
theorem dX12_keepMen_66 : decode cX12_keepMen 66 = .ok (.aload_n 0, 1) := by decide +kernel
theorem dX12_keepMen_67 : decode cX12_keepMen 67 = .ok (.getfield 296, 3) := by decide +kernel
theorem dX12_keepMen_70 : decode cX12_keepMen 70 = .ok (.iastore, 1) := by decide +kernel
theorem dX12_keepMen_71 : decode cX12_keepMen 71 = .ok (.return_, 1) := by decide +kernel
theorem dX12_backTo_0 : decode cX12_backTo 0 = .ok (.iconst 0, 1) := by decide +kernel
theorem dX12_backTo_1 : decode cX12_backTo 1 = .ok (.istore_n 2, 1) := by decide +kernel
theorem dX12_backTo_2 : decode cX12_backTo 2 = .ok (.iload_n 2, 1) := by decide +kernel
theorem dX12_backTo_3 : decode cX12_backTo 3 = .ok (.bipush 6, 2) := by decide +kernel
theorem dX12_backTo_5 : decode cX12_backTo 5 = .ok (.if_icmp .ge 26, 3) := by decide +kernel
theorem dX12_backTo_8 : decode cX12_backTo 8 = .ok (.aload_n 0, 1) := by decide +kernel
theorem dX12_backTo_9 : decode cX12_backTo 9 = .ok (.getfield 44, 3) := by decide +kernel
theorem dX12_backTo_12 : decode cX12_backTo 12 = .ok (.iload_n 2, 1) := by decide +kernel
theorem dX12_backTo_13 : decode cX12_backTo 13 = .ok (.aload_n 0, 1) := by decide +kernel
theorem dX12_backTo_14 : decode cX12_backTo 14 = .ok (.getfield 142, 3) := by decide +kernel
theorem dX12_backTo_17 : decode cX12_backTo 17 = .ok (.bipush 6, 2) := by decide +kernel
theorem dX12_backTo_19 : decode cX12_backTo 19 = .ok (.iload_n 1, 1) := by decide +kernel
theorem dX12_backTo_20 : decode cX12_backTo 20 = .ok (.imul, 1) := by decide +kernel
theorem dX12_backTo_21 : decode cX12_backTo 21 = .ok (.iload_n 2, 1) := by decide +kernel
theorem dX12_backTo_22 : decode cX12_backTo 22 = .ok (.iadd, 1) := by decide +kernel
theorem dX12_backTo_23 : decode cX12_backTo 23 = .ok (.iaload, 1) := by decide +kernel
theorem dX12_backTo_24 : decode cX12_backTo 24 = .ok (.iastore, 1) := by decide +kernel
theorem dX12_backTo_25 : decode cX12_backTo 25 = .ok (.iinc 2 1, 3) := by decide +kernel
theorem dX12_backTo_28 : decode cX12_backTo 28 = .ok (.goto (-26), 3) := by decide +kernel
theorem dX12_backTo_31 : decode cX12_backTo 31 = .ok (.aload_n 0, 1) := by decide +kernel
theorem dX12_backTo_32 : decode cX12_backTo 32 = .ok (.getfield 47, 3) := by decide +kernel
theorem dX12_backTo_35 : decode cX12_backTo 35 = .ok (.iconst 0, 1) := by decide +kernel
theorem dX12_backTo_36 : decode cX12_backTo 36 = .ok (.aload_n 0, 1) := by decide +kernel
theorem dX12_backTo_37 : decode cX12_backTo 37 = .ok (.getfield 145, 3) := by decide +kernel
theorem dX12_backTo_40 : decode cX12_backTo 40 = .ok (.iconst 2, 1) := by decide +kernel
theorem dX12_backTo_41 : decode cX12_backTo 41 = .ok (.iload_n 1, 1) := by decide +kernel
theorem dX12_backTo_42 : decode cX12_backTo 42 = .ok (.imul, 1) := by decide +kernel
theorem dX12_backTo_43 : decode cX12_backTo 43 = .ok (.iaload, 1) := by decide +kernel
theorem dX12_backTo_44 : decode cX12_backTo 44 = .ok (.iastore, 1) := by decide +kernel
theorem dX12_backTo_45 : decode cX12_backTo 45 = .ok (.aload_n 0, 1) := by decide +kernel
theorem dX12_backTo_46 : decode cX12_backTo 46 = .ok (.getfield 47, 3) := by decide +kernel
theorem dX12_backTo_49 : decode cX12_backTo 49 = .ok (.iconst 1, 1) := by decide +kernel
theorem dX12_backTo_50 : decode cX12_backTo 50 = .ok (.aload_n 0, 1) := by decide +kernel
theorem dX12_backTo_51 : decode cX12_backTo 51 = .ok (.getfield 145, 3) := by decide +kernel
theorem dX12_backTo_54 : decode cX12_backTo 54 = .ok (.iconst 2, 1) := by decide +kernel
theorem dX12_backTo_55 : decode cX12_backTo 55 = .ok (.iload_n 1, 1) := by decide +kernel
theorem dX12_backTo_56 : decode cX12_backTo 56 = .ok (.imul, 1) := by decide +kernel
theorem dX12_backTo_57 : decode cX12_backTo 57 = .ok (.iconst 1, 1) := by decide +kernel
theorem dX12_backTo_58 : decode cX12_backTo 58 = .ok (.iadd, 1) := by decide +kernel
theorem dX12_backTo_59 : decode cX12_backTo 59 = .ok (.iaload, 1) := by decide +kernel
theorem dX12_backTo_60 : decode cX12_backTo 60 = .ok (.iastore, 1) := by decide +kernel
theorem dX12_backTo_61 : decode cX12_backTo 61 = .ok (.aload_n 0, 1) := by decide +kernel
theorem dX12_backTo_62 : decode cX12_backTo 62 = .ok (.aload_n 0, 1) := by decide +kernel
theorem dX12_backTo_63 : decode cX12_backTo 63 = .ok (.getfield 148, 3) := by decide +kernel
theorem dX12_backTo_66 : decode cX12_backTo 66 = .ok (.iload_n 1, 1) := by decide +kernel
theorem dX12_backTo_67 : decode cX12_backTo 67 = .ok (.iaload, 1) := by decide +kernel
theorem dX12_backTo_68 : decode cX12_backTo 68 = .ok (.putfield 296, 3) := by decide +kernel
theorem dX12_backTo_71 : decode cX12_backTo 71 = .ok (.return_, 1) := by decide +kernel
theorem dX12_findChoices_0 : decode cX12_findChoices 0 = .ok (.aload_n 0, 1) := by decide +kernel
theorem dX12_findChoices_1 : decode cX12_findChoices 1 = .ok (.iload_n 1, 1) := by decide +kernel
theorem dX12_findChoices_2 : decode cX12_findChoices 2 = .ok (.invokevirtual 509, 3) := by decide +kernel
theorem dX12_findChoices_5 : decode cX12_findChoices 5 = .ok (.aload_n 0, 1) := by decide +kernel
theorem dX12_findChoices_6 : decode cX12_findChoices 6 = .ok (.iconst 1, 1) := by decide +kernel
theorem dX12_findChoices_7 : decode cX12_findChoices 7 = .ok (.aload_n 0, 1) := by decide +kernel
theorem dX12_findChoices_8 : decode cX12_findChoices 8 = .ok (.getfield 296, 3) := by decide +kernel
theorem dX12_findChoices_11 : decode cX12_findChoices 11 = .ok (.isub, 1) := by decide +kernel
theorem dX12_findChoices_12 : decode cX12_findChoices 12 = .ok (.invokevirtual 446, 3) := by decide +kernel
theorem dX12_findChoices_15 : decode cX12_findChoices 15 = .ok (.istore_n 2, 1) := by decide +kernel
theorem dX12_findChoices_16 : decode cX12_findChoices 16 = .ok (.bipush 110, 2) := by decide +kernel
theorem dX12_findChoices_18 : decode cX12_findChoices 18 = .ok (.iload_n 1, 1) := by decide +kernel
theorem dX12_findChoices_19 : decode cX12_findChoices 19 = .ok (.imul, 1) := by decide +kernel
theorem dX12_findChoices_20 : decode cX12_findChoices 20 = .ok (.istore_n 3, 1) := by decide +kernel
theorem dX12_findChoices_21 : decode cX12_findChoices 21 = .ok (.iconst 0, 1) := by decide +kernel
theorem dX12_findChoices_22 : decode cX12_findChoices 22 = .ok (.istore 4, 2) := by decide +kernel
theorem dX12_findChoices_24 : decode cX12_findChoices 24 = .ok (.iconst 1, 1) := by decide +kernel
theorem dX12_findChoices_25 : decode cX12_findChoices 25 = .ok (.istore 5, 2) := by decide +kernel
theorem dX12_findChoices_27 : decode cX12_findChoices 27 = .ok (.iload 5, 2) := by decide +kernel
theorem dX12_findChoices_29 : decode cX12_findChoices 29 = .ok (.aload_n 0, 1) := by decide +kernel
theorem dX12_findChoices_30 : decode cX12_findChoices 30 = .ok (.getfield 512, 3) := by decide +kernel
theorem dX12_findChoices_33 : decode cX12_findChoices 33 = .ok (.if_icmp .gt 108, 3) := by decide +kernel
theorem dX12_findChoices_36 : decode cX12_findChoices 36 = .ok (.iconst 0, 1) := by decide +kernel
theorem dX12_findChoices_37 : decode cX12_findChoices 37 = .ok (.istore 6, 2) := by decide +kernel
theorem dX12_findChoices_39 : decode cX12_findChoices 39 = .ok (.iload 6, 2) := by decide +kernel
theorem dX12_findChoices_41 : decode cX12_findChoices 41 = .ok (.iload 5, 2) := by decide +kernel
theorem dX12_findChoices_43 : decode cX12_findChoices 43 = .ok (.invokestatic 483, 3) := by decide +kernel
theorem dX12_findChoices_46 : decode cX12_findChoices 46 = .ok (.if_icmp .ge 89, 3) := by decide +kernel
theorem dX12_findChoices_49 : decode cX12_findChoices 49 = .ok (.aload_n 0, 1) := by decide +kernel
theorem dX12_findChoices_50 : decode cX12_findChoices 50 = .ok (.iload 5, 2) := by decide +kernel
theorem dX12_findChoices_52 : decode cX12_findChoices 52 = .ok (.iload 6, 2) := by decide +kernel
theorem dX12_findChoices_54 : decode cX12_findChoices 54 = .ok (.invokevirtual 486, 3) := by decide +kernel
theorem dX12_findChoices_57 : decode cX12_findChoices 57 = .ok (.aload_n 0, 1) := by decide +kernel
theorem dX12_findChoices_58 : decode cX12_findChoices 58 = .ok (.iload_n 2, 1) := by decide +kernel
theorem dX12_findChoices_59 : decode cX12_findChoices 59 = .ok (.invokevirtual 392, 3) := by decide +kernel
theorem dX12_findChoices_62 : decode cX12_findChoices 62 = .ok (.lstore 7, 2) := by decide +kernel
theorem dX12_findChoices_64 : decode cX12_findChoices 64 = .ok (.iconst 1, 1) := by decide +kernel
theorem dX12_findChoices_65 : decode cX12_findChoices 65 = .ok (.istore 9, 2) := by decide +kernel
theorem dX12_findChoices_67 : decode cX12_findChoices 67 = .ok (.iconst 0, 1) := by decide +kernel
theorem dX12_findChoices_68 : decode cX12_findChoices 68 = .ok (.istore 10, 2) := by decide +kernel
theorem dX12_findChoices_70 : decode cX12_findChoices 70 = .ok (.iload 10, 2) := by decide +kernel
theorem dX12_findChoices_72 : decode cX12_findChoices 72 = .ok (.iload 4, 2) := by decide +kernel
theorem dX12_findChoices_74 : decode cX12_findChoices 74 = .ok (.if_icmp .ge 36, 3) := by decide +kernel
theorem dX12_findChoices_77 : decode cX12_findChoices 77 = .ok (.iload 9, 2) := by decide +kernel
theorem dX12_findChoices_79 : decode cX12_findChoices 79 = .ok (.ifCond .eq 22, 3) := by decide +kernel
theorem dX12_findChoices_82 : decode cX12_findChoices 82 = .ok (.aload_n 0, 1) := by decide +kernel
theorem dX12_findChoices_83 : decode cX12_findChoices 83 = .ok (.getfield 136, 3) := by decide +kernel
theorem dX12_findChoices_86 : decode cX12_findChoices 86 = .ok (.iload_n 3, 1) := by decide +kernel
theorem dX12_findChoices_87 : decode cX12_findChoices 87 = .ok (.iload 10, 2) := by decide +kernel
theorem dX12_findChoices_89 : decode cX12_findChoices 89 = .ok (.iadd, 1) := by decide +kernel
theorem dX12_findChoices_90 : decode cX12_findChoices 90 = .ok (.laload, 1) := by decide +kernel
theorem dX12_findChoices_91 : decode cX12_findChoices 91 = .ok (.lload 7, 2) := by decide +kernel
theorem dX12_findChoices_93 : decode cX12_findChoices 93 = .ok (.lcmp, 1) := by decide +kernel
theorem dX12_findChoices_94 : decode cX12_findChoices 94 = .ok (.ifCond .eq 7, 3) := by decide +kernel
theorem dX12_findChoices_97 : decode cX12_findChoices 97 = .ok (.iconst 1, 1) := by decide +kernel
theorem dX12_findChoices_98 : decode cX12_findChoices 98 = .ok (.goto 4, 3) := by decide +kernel
theorem dX12_findChoices_101 : decode cX12_findChoices 101 = .ok (.iconst 0, 1) := by decide +kernel
theorem dX12_findChoices_102 : decode cX12_findChoices 102 = .ok (.istore 9, 2) := by decide +kernel
theorem dX12_findChoices_104 : decode cX12_findChoices 104 = .ok (.iinc 10 1, 3) := by decide +kernel
theorem dX12_findChoices_107 : decode cX12_findChoices 107 = .ok (.goto (-37), 3) := by decide +kernel
theorem dX12_findChoices_110 : decode cX12_findChoices 110 = .ok (.iload 9, 2) := by decide +kernel
theorem dX12_findChoices_112 : decode cX12_findChoices 112 = .ok (.ifCond .eq 17, 3) := by decide +kernel
theorem dX12_findChoices_115 : decode cX12_findChoices 115 = .ok (.aload_n 0, 1) := by decide +kernel
theorem dX12_findChoices_116 : decode cX12_findChoices 116 = .ok (.getfield 136, 3) := by decide +kernel
theorem dX12_findChoices_119 : decode cX12_findChoices 119 = .ok (.iload_n 3, 1) := by decide +kernel
theorem dX12_findChoices_120 : decode cX12_findChoices 120 = .ok (.iload 4, 2) := by decide +kernel
theorem dX12_findChoices_122 : decode cX12_findChoices 122 = .ok (.iadd, 1) := by decide +kernel
theorem dX12_findChoices_123 : decode cX12_findChoices 123 = .ok (.lload 7, 2) := by decide +kernel
theorem dX12_findChoices_125 : decode cX12_findChoices 125 = .ok (.lastore, 1) := by decide +kernel
theorem dX12_findChoices_126 : decode cX12_findChoices 126 = .ok (.iinc 4 1, 3) := by decide +kernel
theorem dX12_findChoices_129 : decode cX12_findChoices 129 = .ok (.iinc 6 1, 3) := by decide +kernel
theorem dX12_findChoices_132 : decode cX12_findChoices 132 = .ok (.goto (-93), 3) := by decide +kernel
theorem dX12_findChoices_135 : decode cX12_findChoices 135 = .ok (.iinc 5 1, 3) := by decide +kernel
theorem dX12_findChoices_138 : decode cX12_findChoices 138 = .ok (.goto (-111), 3) := by decide +kernel
theorem dX12_findChoices_141 : decode cX12_findChoices 141 = .ok (.aload_n 0, 1) := by decide +kernel
theorem dX12_findChoices_142 : decode cX12_findChoices 142 = .ok (.getfield 139, 3) := by decide +kernel
theorem dX12_findChoices_145 : decode cX12_findChoices 145 = .ok (.iload_n 1, 1) := by decide +kernel
theorem dX12_findChoices_146 : decode cX12_findChoices 146 = .ok (.iload 4, 2) := by decide +kernel
theorem dX12_findChoices_148 : decode cX12_findChoices 148 = .ok (.iastore, 1) := by decide +kernel
theorem dX12_findChoices_149 : decode cX12_findChoices 149 = .ok (.return_, 1) := by decide +kernel
theorem dX12_obeyed_0 : decode cX12_obeyed 0 = .ok (.aload_n 0, 1) := by decide +kernel
theorem dX12_obeyed_1 : decode cX12_obeyed 1 = .ok (.iload_n 1, 1) := by decide +kernel
theorem dX12_obeyed_2 : decode cX12_obeyed 2 = .ok (.invokevirtual 515, 3) := by decide +kernel
theorem dX12_obeyed_5 : decode cX12_obeyed 5 = .ok (.aload_n 0, 1) := by decide +kernel
theorem dX12_obeyed_6 : decode cX12_obeyed 6 = .ok (.iload_n 2, 1) := by decide +kernel
theorem dX12_obeyed_7 : decode cX12_obeyed 7 = .ok (.invokevirtual 464, 3) := by decide +kernel
theorem dX12_obeyed_10 : decode cX12_obeyed 10 = .ok (.aload_n 0, 1) := by decide +kernel
theorem dX12_obeyed_11 : decode cX12_obeyed 11 = .ok (.iconst 1, 1) := by decide +kernel
theorem dX12_obeyed_12 : decode cX12_obeyed 12 = .ok (.aload_n 0, 1) := by decide +kernel
theorem dX12_obeyed_13 : decode cX12_obeyed 13 = .ok (.getfield 518, 3) := by decide +kernel
theorem dX12_obeyed_16 : decode cX12_obeyed 16 = .ok (.isub, 1) := by decide +kernel
theorem dX12_obeyed_17 : decode cX12_obeyed 17 = .ok (.invokevirtual 439, 3) := by decide +kernel
theorem dX12_obeyed_20 : decode cX12_obeyed 20 = .ok (.ifCond .ne 7, 3) := by decide +kernel
theorem dX12_obeyed_23 : decode cX12_obeyed 23 = .ok (.iconst 1, 1) := by decide +kernel
theorem dX12_obeyed_24 : decode cX12_obeyed 24 = .ok (.goto 19, 3) := by decide +kernel
theorem dX12_obeyed_27 : decode cX12_obeyed 27 = .ok (.aload_n 0, 1) := by decide +kernel
theorem dX12_obeyed_28 : decode cX12_obeyed 28 = .ok (.aload_n 0, 1) := by decide +kernel
theorem dX12_obeyed_29 : decode cX12_obeyed 29 = .ok (.getfield 518, 3) := by decide +kernel
theorem dX12_obeyed_32 : decode cX12_obeyed 32 = .ok (.invokevirtual 439, 3) := by decide +kernel
theorem dX12_obeyed_35 : decode cX12_obeyed 35 = .ok (.ifCond .ne 7, 3) := by decide +kernel
theorem dX12_obeyed_38 : decode cX12_obeyed 38 = .ok (.iconst (-1), 1) := by decide +kernel
theorem dX12_obeyed_39 : decode cX12_obeyed 39 = .ok (.goto 4, 3) := by decide +kernel
theorem dX12_obeyed_42 : decode cX12_obeyed 42 = .ok (.iconst 0, 1) := by decide +kernel
theorem dX12_obeyed_43 : decode cX12_obeyed 43 = .ok (.ireturn, 1) := by decide +kernel
theorem dX12_winsAtOnce_0 : decode cX12_winsAtOnce 0 = .ok (.lload_n 2, 1) := by decide +kernel
theorem dX12_winsAtOnce_1 : decode cX12_winsAtOnce 1 = .ok (.lconst 0, 1) := by decide +kernel
theorem dX12_winsAtOnce_2 : decode cX12_winsAtOnce 2 = .ok (.lcmp, 1) := by decide +kernel
theorem dX12_winsAtOnce_3 : decode cX12_winsAtOnce 3 = .ok (.ifCond .ne 19, 3) := by decide +kernel
theorem dX12_winsAtOnce_6 : decode cX12_winsAtOnce 6 = .ok (.aload_n 0, 1) := by decide +kernel
theorem dX12_winsAtOnce_7 : decode cX12_winsAtOnce 7 = .ok (.iload_n 1, 1) := by decide +kernel
theorem dX12_winsAtOnce_8 : decode cX12_winsAtOnce 8 = .ok (.iconst (-1), 1) := by decide +kernel
theorem dX12_winsAtOnce_9 : decode cX12_winsAtOnce 9 = .ok (.invokevirtual 521, 3) := by decide +kernel
theorem dX12_winsAtOnce_12 : decode cX12_winsAtOnce 12 = .ok (.iconst 1, 1) := by decide +kernel
theorem dX12_winsAtOnce_13 : decode cX12_winsAtOnce 13 = .ok (.if_icmp .ne 7, 3) := by decide +kernel
theorem dX12_winsAtOnce_16 : decode cX12_winsAtOnce 16 = .ok (.iconst 1, 1) := by decide +kernel
theorem dX12_winsAtOnce_17 : decode cX12_winsAtOnce 17 = .ok (.goto 4, 3) := by decide +kernel
theorem dX12_winsAtOnce_20 : decode cX12_winsAtOnce 20 = .ok (.iconst 0, 1) := by decide +kernel
theorem dX12_winsAtOnce_21 : decode cX12_winsAtOnce 21 = .ok (.ireturn, 1) := by decide +kernel
theorem dX12_winsAtOnce_22 : decode cX12_winsAtOnce 22 = .ok (.iconst 0, 1) := by decide +kernel
theorem dX12_winsAtOnce_23 : decode cX12_winsAtOnce 23 = .ok (.istore 4, 2) := by decide +kernel
theorem dX12_winsAtOnce_25 : decode cX12_winsAtOnce 25 = .ok (.iload 4, 2) := by decide +kernel
theorem dX12_winsAtOnce_27 : decode cX12_winsAtOnce 27 = .ok (.aload_n 0, 1) := by decide +kernel
theorem dX12_winsAtOnce_28 : decode cX12_winsAtOnce 28 = .ok (.getfield 284, 3) := by decide +kernel
theorem dX12_winsAtOnce_31 : decode cX12_winsAtOnce 31 = .ok (.if_icmp .ge 31, 3) := by decide +kernel
theorem dX12_winsAtOnce_34 : decode cX12_winsAtOnce 34 = .ok (.lload_n 2, 1) := by decide +kernel
theorem dX12_winsAtOnce_35 : decode cX12_winsAtOnce 35 = .ok (.iload 4, 2) := by decide +kernel
theorem dX12_winsAtOnce_37 : decode cX12_winsAtOnce 37 = .ok (.invokestatic 299, 3) := by decide +kernel
theorem dX12_winsAtOnce_40 : decode cX12_winsAtOnce 40 = .ok (.ifCond .eq 16, 3) := by decide +kernel
theorem dX12_winsAtOnce_43 : decode cX12_winsAtOnce 43 = .ok (.aload_n 0, 1) := by decide +kernel
theorem dX12_winsAtOnce_44 : decode cX12_winsAtOnce 44 = .ok (.iload_n 1, 1) := by decide +kernel
theorem dX12_winsAtOnce_45 : decode cX12_winsAtOnce 45 = .ok (.iload 4, 2) := by decide +kernel
theorem dX12_winsAtOnce_47 : decode cX12_winsAtOnce 47 = .ok (.invokevirtual 521, 3) := by decide +kernel
theorem dX12_winsAtOnce_50 : decode cX12_winsAtOnce 50 = .ok (.iconst 1, 1) := by decide +kernel
theorem dX12_winsAtOnce_51 : decode cX12_winsAtOnce 51 = .ok (.if_icmp .eq 5, 3) := by decide +kernel
theorem dX12_winsAtOnce_54 : decode cX12_winsAtOnce 54 = .ok (.iconst 0, 1) := by decide +kernel
theorem dX12_winsAtOnce_55 : decode cX12_winsAtOnce 55 = .ok (.ireturn, 1) := by decide +kernel
theorem dX12_winsAtOnce_56 : decode cX12_winsAtOnce 56 = .ok (.iinc 4 1, 3) := by decide +kernel
theorem dX12_winsAtOnce_59 : decode cX12_winsAtOnce 59 = .ok (.goto (-34), 3) := by decide +kernel
theorem dX12_winsAtOnce_62 : decode cX12_winsAtOnce 62 = .ok (.iconst 1, 1) := by decide +kernel
theorem dX12_winsAtOnce_63 : decode cX12_winsAtOnce 63 = .ok (.ireturn, 1) := by decide +kernel
theorem dX12_side1_0 : decode cX12_side1 0 = .ok (.aload_n 0, 1) := by decide +kernel
theorem dX12_side1_1 : decode cX12_side1 1 = .ok (.iload_n 1, 1) := by decide +kernel
theorem dX12_side1_2 : decode cX12_side1 2 = .ok (.invokevirtual 524, 3) := by decide +kernel
theorem dX12_side1_5 : decode cX12_side1 5 = .ok (.iconst 0, 1) := by decide +kernel
theorem dX12_side1_6 : decode cX12_side1 6 = .ok (.istore_n 2, 1) := by decide +kernel
theorem dX12_side1_7 : decode cX12_side1 7 = .ok (.iload_n 2, 1) := by decide +kernel
theorem dX12_side1_8 : decode cX12_side1 8 = .ok (.aload_n 0, 1) := by decide +kernel
theorem dX12_side1_9 : decode cX12_side1 9 = .ok (.getfield 139, 3) := by decide +kernel
theorem dX12_side1_12 : decode cX12_side1 12 = .ok (.iload_n 1, 1) := by decide +kernel
theorem dX12_side1_13 : decode cX12_side1 13 = .ok (.iaload, 1) := by decide +kernel
theorem dX12_side1_14 : decode cX12_side1 14 = .ok (.if_icmp .ge 30, 3) := by decide +kernel
theorem dX12_side1_17 : decode cX12_side1 17 = .ok (.aload_n 0, 1) := by decide +kernel
theorem dX12_side1_18 : decode cX12_side1 18 = .ok (.iload_n 1, 1) := by decide +kernel
theorem dX12_side1_19 : decode cX12_side1 19 = .ok (.aload_n 0, 1) := by decide +kernel
theorem dX12_side1_20 : decode cX12_side1 20 = .ok (.getfield 136, 3) := by decide +kernel
theorem dX12_side1_23 : decode cX12_side1 23 = .ok (.bipush 110, 2) := by decide +kernel
theorem dX12_side1_25 : decode cX12_side1 25 = .ok (.iload_n 1, 1) := by decide +kernel
theorem dX12_side1_26 : decode cX12_side1 26 = .ok (.imul, 1) := by decide +kernel
theorem dX12_side1_27 : decode cX12_side1 27 = .ok (.iload_n 2, 1) := by decide +kernel
theorem dX12_side1_28 : decode cX12_side1 28 = .ok (.iadd, 1) := by decide +kernel
theorem dX12_side1_29 : decode cX12_side1 29 = .ok (.laload, 1) := by decide +kernel
theorem dX12_side1_30 : decode cX12_side1 30 = .ok (.invokevirtual 527, 3) := by decide +kernel
theorem dX12_side1_33 : decode cX12_side1 33 = .ok (.ifCond .eq 5, 3) := by decide +kernel
theorem dX12_side1_36 : decode cX12_side1 36 = .ok (.iconst 1, 1) := by decide +kernel
theorem dX12_side1_37 : decode cX12_side1 37 = .ok (.ireturn, 1) := by decide +kernel
theorem dX12_side1_38 : decode cX12_side1 38 = .ok (.iinc 2 1, 3) := by decide +kernel
theorem dX12_side1_41 : decode cX12_side1 41 = .ok (.goto (-34), 3) := by decide +kernel
theorem dX12_side1_44 : decode cX12_side1 44 = .ok (.iconst 0, 1) := by decide +kernel
theorem dX12_side1_45 : decode cX12_side1 45 = .ok (.ireturn, 1) := by decide +kernel
theorem dX12_standsAgainst_0 : decode cX12_standsAgainst 0 = .ok (.lload_n 2, 1) := by decide +kernel
theorem dX12_standsAgainst_1 : decode cX12_standsAgainst 1 = .ok (.lconst 0, 1) := by decide +kernel
theorem dX12_standsAgainst_2 : decode cX12_standsAgainst 2 = .ok (.lcmp, 1) := by decide +kernel
theorem dX12_standsAgainst_3 : decode cX12_standsAgainst 3 = .ok (.ifCond .ne 43, 3) := by decide +kernel
theorem dX12_standsAgainst_6 : decode cX12_standsAgainst 6 = .ok (.aload_n 0, 1) := by decide +kernel
theorem dX12_standsAgainst_7 : decode cX12_standsAgainst 7 = .ok (.iload_n 1, 1) := by decide +kernel
theorem dX12_standsAgainst_8 : decode cX12_standsAgainst 8 = .ok (.iconst (-1), 1) := by decide +kernel
theorem dX12_standsAgainst_9 : decode cX12_standsAgainst 9 = .ok (.invokevirtual 521, 3) := by decide +kernel
theorem dX12_standsAgainst_12 : decode cX12_standsAgainst 12 = .ok (.istore 5, 2) := by decide +kernel
theorem dX12_standsAgainst_14 : decode cX12_standsAgainst 14 = .ok (.iload 5, 2) := by decide +kernel
theorem dX12_standsAgainst_16 : decode cX12_standsAgainst 16 = .ok (.iconst 1, 1) := by decide +kernel
theorem dX12_standsAgainst_17 : decode cX12_standsAgainst 17 = .ok (.if_icmp .eq 23, 3) := by decide +kernel
theorem dX12_standsAgainst_20 : decode cX12_standsAgainst 20 = .ok (.iload 4, 2) := by decide +kernel
theorem dX12_standsAgainst_22 : decode cX12_standsAgainst 22 = .ok (.ifCond .eq 22, 3) := by decide +kernel
theorem dX12_standsAgainst_25 : decode cX12_standsAgainst 25 = .ok (.iload 5, 2) := by decide +kernel
theorem dX12_standsAgainst_27 : decode cX12_standsAgainst 27 = .ok (.ifCond .ne 17, 3) := by decide +kernel
theorem dX12_standsAgainst_30 : decode cX12_standsAgainst 30 = .ok (.aload_n 0, 1) := by decide +kernel
theorem dX12_standsAgainst_31 : decode cX12_standsAgainst 31 = .ok (.iload_n 1, 1) := by decide +kernel
theorem dX12_standsAgainst_32 : decode cX12_standsAgainst 32 = .ok (.iconst 1, 1) := by decide +kernel
theorem dX12_standsAgainst_33 : decode cX12_standsAgainst 33 = .ok (.iadd, 1) := by decide +kernel
theorem dX12_standsAgainst_34 : decode cX12_standsAgainst 34 = .ok (.invokevirtual 531, 3) := by decide +kernel
theorem dX12_standsAgainst_37 : decode cX12_standsAgainst 37 = .ok (.ifCond .eq 7, 3) := by decide +kernel
theorem dX12_standsAgainst_40 : decode cX12_standsAgainst 40 = .ok (.iconst 1, 1) := by decide +kernel
theorem dX12_standsAgainst_41 : decode cX12_standsAgainst 41 = .ok (.goto 4, 3) := by decide +kernel
theorem dX12_standsAgainst_44 : decode cX12_standsAgainst 44 = .ok (.iconst 0, 1) := by decide +kernel
theorem dX12_standsAgainst_45 : decode cX12_standsAgainst 45 = .ok (.ireturn, 1) := by decide +kernel
theorem dX12_standsAgainst_46 : decode cX12_standsAgainst 46 = .ok (.iconst 0, 1) := by decide +kernel
theorem dX12_standsAgainst_47 : decode cX12_standsAgainst 47 = .ok (.istore 5, 2) := by decide +kernel
theorem dX12_standsAgainst_49 : decode cX12_standsAgainst 49 = .ok (.iload 5, 2) := by decide +kernel
theorem dX12_standsAgainst_51 : decode cX12_standsAgainst 51 = .ok (.aload_n 0, 1) := by decide +kernel
theorem dX12_standsAgainst_52 : decode cX12_standsAgainst 52 = .ok (.getfield 284, 3) := by decide +kernel
theorem dX12_standsAgainst_55 : decode cX12_standsAgainst 55 = .ok (.if_icmp .ge 55, 3) := by decide +kernel
theorem dX12_standsAgainst_58 : decode cX12_standsAgainst 58 = .ok (.lload_n 2, 1) := by decide +kernel
theorem dX12_standsAgainst_59 : decode cX12_standsAgainst 59 = .ok (.iload 5, 2) := by decide +kernel
theorem dX12_standsAgainst_61 : decode cX12_standsAgainst 61 = .ok (.invokestatic 299, 3) := by decide +kernel
theorem dX12_standsAgainst_64 : decode cX12_standsAgainst 64 = .ok (.ifCond .eq 40, 3) := by decide +kernel
theorem dX12_standsAgainst_67 : decode cX12_standsAgainst 67 = .ok (.aload_n 0, 1) := by decide +kernel
theorem dX12_standsAgainst_68 : decode cX12_standsAgainst 68 = .ok (.iload_n 1, 1) := by decide +kernel
theorem dX12_standsAgainst_69 : decode cX12_standsAgainst 69 = .ok (.iload 5, 2) := by decide +kernel
theorem dX12_standsAgainst_71 : decode cX12_standsAgainst 71 = .ok (.invokevirtual 521, 3) := by decide +kernel
theorem dX12_standsAgainst_74 : decode cX12_standsAgainst 74 = .ok (.istore 6, 2) := by decide +kernel
theorem dX12_standsAgainst_76 : decode cX12_standsAgainst 76 = .ok (.iload 6, 2) := by decide +kernel
theorem dX12_standsAgainst_78 : decode cX12_standsAgainst 78 = .ok (.iconst 1, 1) := by decide +kernel
theorem dX12_standsAgainst_79 : decode cX12_standsAgainst 79 = .ok (.if_icmp .eq 23, 3) := by decide +kernel
theorem dX12_standsAgainst_82 : decode cX12_standsAgainst 82 = .ok (.iload 4, 2) := by decide +kernel
theorem dX12_standsAgainst_84 : decode cX12_standsAgainst 84 = .ok (.ifCond .eq 20, 3) := by decide +kernel
theorem dX12_standsAgainst_87 : decode cX12_standsAgainst 87 = .ok (.iload 6, 2) := by decide +kernel
theorem dX12_standsAgainst_89 : decode cX12_standsAgainst 89 = .ok (.ifCond .ne 15, 3) := by decide +kernel
theorem dX12_standsAgainst_92 : decode cX12_standsAgainst 92 = .ok (.aload_n 0, 1) := by decide +kernel
theorem dX12_standsAgainst_93 : decode cX12_standsAgainst 93 = .ok (.iload_n 1, 1) := by decide +kernel
theorem dX12_standsAgainst_94 : decode cX12_standsAgainst 94 = .ok (.iconst 1, 1) := by decide +kernel
theorem dX12_standsAgainst_95 : decode cX12_standsAgainst 95 = .ok (.iadd, 1) := by decide +kernel
theorem dX12_standsAgainst_96 : decode cX12_standsAgainst 96 = .ok (.invokevirtual 531, 3) := by decide +kernel
theorem dX12_standsAgainst_99 : decode cX12_standsAgainst 99 = .ok (.ifCond .eq 5, 3) := by decide +kernel
theorem dX12_standsAgainst_102 : decode cX12_standsAgainst 102 = .ok (.iconst 1, 1) := by decide +kernel
theorem dX12_standsAgainst_103 : decode cX12_standsAgainst 103 = .ok (.ireturn, 1) := by decide +kernel
theorem dX12_standsAgainst_104 : decode cX12_standsAgainst 104 = .ok (.iinc 5 1, 3) := by decide +kernel
theorem dX12_standsAgainst_107 : decode cX12_standsAgainst 107 = .ok (.goto (-58), 3) := by decide +kernel
theorem dX12_standsAgainst_110 : decode cX12_standsAgainst 110 = .ok (.iconst 0, 1) := by decide +kernel
theorem dX12_standsAgainst_111 : decode cX12_standsAgainst 111 = .ok (.ireturn, 1) := by decide +kernel
theorem dX12_other_0 : decode cX12_other 0 = .ok (.aload_n 0, 1) := by decide +kernel
theorem dX12_other_1 : decode cX12_other 1 = .ok (.iload_n 1, 1) := by decide +kernel
theorem dX12_other_2 : decode cX12_other 2 = .ok (.invokevirtual 524, 3) := by decide +kernel
theorem dX12_other_5 : decode cX12_other 5 = .ok (.iconst 0, 1) := by decide +kernel
theorem dX12_other_6 : decode cX12_other 6 = .ok (.istore_n 3, 1) := by decide +kernel
theorem dX12_other_7 : decode cX12_other 7 = .ok (.iload_n 3, 1) := by decide +kernel
theorem dX12_other_8 : decode cX12_other 8 = .ok (.aload_n 0, 1) := by decide +kernel
theorem dX12_other_9 : decode cX12_other 9 = .ok (.getfield 139, 3) := by decide +kernel
theorem dX12_other_12 : decode cX12_other 12 = .ok (.iload_n 1, 1) := by decide +kernel
theorem dX12_other_13 : decode cX12_other 13 = .ok (.iaload, 1) := by decide +kernel
theorem dX12_other_14 : decode cX12_other 14 = .ok (.if_icmp .ge 31, 3) := by decide +kernel
theorem dX12_other_17 : decode cX12_other 17 = .ok (.aload_n 0, 1) := by decide +kernel
theorem dX12_other_18 : decode cX12_other 18 = .ok (.iload_n 1, 1) := by decide +kernel
theorem dX12_other_19 : decode cX12_other 19 = .ok (.aload_n 0, 1) := by decide +kernel
theorem dX12_other_20 : decode cX12_other 20 = .ok (.getfield 136, 3) := by decide +kernel
theorem dX12_other_23 : decode cX12_other 23 = .ok (.bipush 110, 2) := by decide +kernel
theorem dX12_other_25 : decode cX12_other 25 = .ok (.iload_n 1, 1) := by decide +kernel
theorem dX12_other_26 : decode cX12_other 26 = .ok (.imul, 1) := by decide +kernel
theorem dX12_other_27 : decode cX12_other 27 = .ok (.iload_n 3, 1) := by decide +kernel
theorem dX12_other_28 : decode cX12_other 28 = .ok (.iadd, 1) := by decide +kernel
theorem dX12_other_29 : decode cX12_other 29 = .ok (.laload, 1) := by decide +kernel
theorem dX12_other_30 : decode cX12_other 30 = .ok (.iload_n 2, 1) := by decide +kernel
theorem dX12_other_31 : decode cX12_other 31 = .ok (.invokevirtual 534, 3) := by decide +kernel
theorem dX12_other_34 : decode cX12_other 34 = .ok (.ifCond .ne 5, 3) := by decide +kernel
theorem dX12_other_37 : decode cX12_other 37 = .ok (.iconst 0, 1) := by decide +kernel
theorem dX12_other_38 : decode cX12_other 38 = .ok (.ireturn, 1) := by decide +kernel
theorem dX12_other_39 : decode cX12_other 39 = .ok (.iinc 3 1, 3) := by decide +kernel
theorem dX12_other_42 : decode cX12_other 42 = .ok (.goto (-35), 3) := by decide +kernel
theorem dX12_other_45 : decode cX12_other 45 = .ok (.iconst 1, 1) := by decide +kernel
theorem dX12_other_46 : decode cX12_other 46 = .ok (.ireturn, 1) := by decide +kernel
theorem dX12_winsBy_0 : decode cX12_winsBy 0 = .ok (.lload_n 1, 1) := by decide +kernel
theorem dX12_winsBy_1 : decode cX12_winsBy 1 = .ok (.lconst 0, 1) := by decide +kernel
theorem dX12_winsBy_2 : decode cX12_winsBy 2 = .ok (.lcmp, 1) := by decide +kernel
theorem dX12_winsBy_3 : decode cX12_winsBy 3 = .ok (.ifCond .ne 51, 3) := by decide +kernel
theorem dX12_winsBy_6 : decode cX12_winsBy 6 = .ok (.aload_n 0, 1) := by decide +kernel
theorem dX12_winsBy_7 : decode cX12_winsBy 7 = .ok (.iconst 0, 1) := by decide +kernel
theorem dX12_winsBy_8 : decode cX12_winsBy 8 = .ok (.iconst (-1), 1) := by decide +kernel
theorem dX12_winsBy_9 : decode cX12_winsBy 9 = .ok (.invokevirtual 521, 3) := by decide +kernel
theorem dX12_winsBy_12 : decode cX12_winsBy 12 = .ok (.istore 4, 2) := by decide +kernel
theorem dX12_winsBy_14 : decode cX12_winsBy 14 = .ok (.iload 4, 2) := by decide +kernel
theorem dX12_winsBy_16 : decode cX12_winsBy 16 = .ok (.iconst 1, 1) := by decide +kernel
theorem dX12_winsBy_17 : decode cX12_winsBy 17 = .ok (.if_icmp .eq 31, 3) := by decide +kernel
theorem dX12_winsBy_20 : decode cX12_winsBy 20 = .ok (.iload_n 3, 1) := by decide +kernel
theorem dX12_winsBy_21 : decode cX12_winsBy 21 = .ok (.iconst 1, 1) := by decide +kernel
theorem dX12_winsBy_22 : decode cX12_winsBy 22 = .ok (.if_icmp .le 30, 3) := by decide +kernel
theorem dX12_winsBy_25 : decode cX12_winsBy 25 = .ok (.iload 4, 2) := by decide +kernel
theorem dX12_winsBy_27 : decode cX12_winsBy 27 = .ok (.ifCond .ne 25, 3) := by decide +kernel
theorem dX12_winsBy_30 : decode cX12_winsBy 30 = .ok (.aload_n 0, 1) := by decide +kernel
theorem dX12_winsBy_31 : decode cX12_winsBy 31 = .ok (.iconst 1, 1) := by decide +kernel
theorem dX12_winsBy_32 : decode cX12_winsBy 32 = .ok (.iload_n 3, 1) := by decide +kernel
theorem dX12_winsBy_33 : decode cX12_winsBy 33 = .ok (.iconst 2, 1) := by decide +kernel
theorem dX12_winsBy_34 : decode cX12_winsBy 34 = .ok (.if_icmp .le 7, 3) := by decide +kernel
theorem dX12_winsBy_37 : decode cX12_winsBy 37 = .ok (.iconst 1, 1) := by decide +kernel
theorem dX12_winsBy_38 : decode cX12_winsBy 38 = .ok (.goto 4, 3) := by decide +kernel
theorem dX12_winsBy_41 : decode cX12_winsBy 41 = .ok (.iconst 0, 1) := by decide +kernel
theorem dX12_winsBy_42 : decode cX12_winsBy 42 = .ok (.invokevirtual 538, 3) := by decide +kernel
theorem dX12_winsBy_45 : decode cX12_winsBy 45 = .ok (.ifCond .eq 7, 3) := by decide +kernel
theorem dX12_winsBy_48 : decode cX12_winsBy 48 = .ok (.iconst 1, 1) := by decide +kernel
theorem dX12_winsBy_49 : decode cX12_winsBy 49 = .ok (.goto 4, 3) := by decide +kernel
theorem dX12_winsBy_52 : decode cX12_winsBy 52 = .ok (.iconst 0, 1) := by decide +kernel
theorem dX12_winsBy_53 : decode cX12_winsBy 53 = .ok (.ireturn, 1) := by decide +kernel
theorem dX12_winsBy_54 : decode cX12_winsBy 54 = .ok (.iconst 0, 1) := by decide +kernel
theorem dX12_winsBy_55 : decode cX12_winsBy 55 = .ok (.istore 4, 2) := by decide +kernel
theorem dX12_winsBy_57 : decode cX12_winsBy 57 = .ok (.iload 4, 2) := by decide +kernel
theorem dX12_winsBy_59 : decode cX12_winsBy 59 = .ok (.aload_n 0, 1) := by decide +kernel
theorem dX12_winsBy_60 : decode cX12_winsBy 60 = .ok (.getfield 284, 3) := by decide +kernel
theorem dX12_winsBy_63 : decode cX12_winsBy 63 = .ok (.if_icmp .ge 62, 3) := by decide +kernel
theorem dX12_winsBy_66 : decode cX12_winsBy 66 = .ok (.lload_n 1, 1) := by decide +kernel
theorem dX12_winsBy_67 : decode cX12_winsBy 67 = .ok (.iload 4, 2) := by decide +kernel
theorem dX12_winsBy_69 : decode cX12_winsBy 69 = .ok (.invokestatic 299, 3) := by decide +kernel
theorem dX12_winsBy_72 : decode cX12_winsBy 72 = .ok (.ifCond .eq 47, 3) := by decide +kernel
theorem dX12_winsBy_75 : decode cX12_winsBy 75 = .ok (.aload_n 0, 1) := by decide +kernel
theorem dX12_winsBy_76 : decode cX12_winsBy 76 = .ok (.iconst 0, 1) := by decide +kernel
theorem dX12_winsBy_77 : decode cX12_winsBy 77 = .ok (.iload 4, 2) := by decide +kernel
theorem dX12_winsBy_79 : decode cX12_winsBy 79 = .ok (.invokevirtual 521, 3) := by decide +kernel
theorem dX12_winsBy_82 : decode cX12_winsBy 82 = .ok (.istore 5, 2) := by decide +kernel
theorem dX12_winsBy_84 : decode cX12_winsBy 84 = .ok (.iload 5, 2) := by decide +kernel
theorem dX12_winsBy_86 : decode cX12_winsBy 86 = .ok (.ifCond .lt 31, 3) := by decide +kernel
theorem dX12_winsBy_89 : decode cX12_winsBy 89 = .ok (.iload 5, 2) := by decide +kernel
theorem dX12_winsBy_91 : decode cX12_winsBy 91 = .ok (.ifCond .ne 28, 3) := by decide +kernel
theorem dX12_winsBy_94 : decode cX12_winsBy 94 = .ok (.iload_n 3, 1) := by decide +kernel
theorem dX12_winsBy_95 : decode cX12_winsBy 95 = .ok (.iconst 1, 1) := by decide +kernel
theorem dX12_winsBy_96 : decode cX12_winsBy 96 = .ok (.if_icmp .eq 21, 3) := by decide +kernel
theorem dX12_winsBy_99 : decode cX12_winsBy 99 = .ok (.aload_n 0, 1) := by decide +kernel
theorem dX12_winsBy_100 : decode cX12_winsBy 100 = .ok (.iconst 1, 1) := by decide +kernel
theorem dX12_winsBy_101 : decode cX12_winsBy 101 = .ok (.iload_n 3, 1) := by decide +kernel
theorem dX12_winsBy_102 : decode cX12_winsBy 102 = .ok (.iconst 2, 1) := by decide +kernel
theorem dX12_winsBy_103 : decode cX12_winsBy 103 = .ok (.if_icmp .le 7, 3) := by decide +kernel
theorem dX12_winsBy_106 : decode cX12_winsBy 106 = .ok (.iconst 1, 1) := by decide +kernel
theorem dX12_winsBy_107 : decode cX12_winsBy 107 = .ok (.goto 4, 3) := by decide +kernel
theorem dX12_winsBy_110 : decode cX12_winsBy 110 = .ok (.iconst 0, 1) := by decide +kernel
theorem dX12_winsBy_111 : decode cX12_winsBy 111 = .ok (.invokevirtual 538, 3) := by decide +kernel
theorem dX12_winsBy_114 : decode cX12_winsBy 114 = .ok (.ifCond .ne 5, 3) := by decide +kernel
theorem dX12_winsBy_117 : decode cX12_winsBy 117 = .ok (.iconst 0, 1) := by decide +kernel
theorem dX12_winsBy_118 : decode cX12_winsBy 118 = .ok (.ireturn, 1) := by decide +kernel
theorem dX12_winsBy_119 : decode cX12_winsBy 119 = .ok (.iinc 4 1, 3) := by decide +kernel
theorem dX12_winsBy_122 : decode cX12_winsBy 122 = .ok (.goto (-65), 3) := by decide +kernel
theorem dX12_winsBy_125 : decode cX12_winsBy 125 = .ok (.iconst 1, 1) := by decide +kernel
theorem dX12_winsBy_126 : decode cX12_winsBy 126 = .ok (.ireturn, 1) := by decide +kernel
theorem dX12_findWin_0 : decode cX12_findWin 0 = .ok (.aload_n 0, 1) := by decide +kernel
theorem dX12_findWin_1 : decode cX12_findWin 1 = .ok (.iload_n 2, 1) := by decide +kernel
theorem dX12_findWin_2 : decode cX12_findWin 2 = .ok (.putfield 512, 3) := by decide +kernel
theorem dX12_findWin_5 : decode cX12_findWin 5 = .ok (.aload_n 0, 1) := by decide +kernel
theorem dX12_findWin_6 : decode cX12_findWin 6 = .ok (.iload_n 1, 1) := by decide +kernel
theorem dX12_findWin_7 : decode cX12_findWin 7 = .ok (.putfield 518, 3) := by decide +kernel
theorem dX12_findWin_10 : decode cX12_findWin 10 = .ok (.aload_n 0, 1) := by decide +kernel
theorem dX12_findWin_11 : decode cX12_findWin 11 = .ok (.iload_n 1, 1) := by decide +kernel
theorem dX12_findWin_12 : decode cX12_findWin 12 = .ok (.putfield 296, 3) := by decide +kernel
theorem dX12_findWin_15 : decode cX12_findWin 15 = .ok (.aload_n 0, 1) := by decide +kernel
theorem dX12_findWin_16 : decode cX12_findWin 16 = .ok (.getfield 151, 3) := by decide +kernel
theorem dX12_findWin_19 : decode cX12_findWin 19 = .ok (.iconst 0, 1) := by decide +kernel
theorem dX12_findWin_20 : decode cX12_findWin 20 = .ok (.iconst 0, 1) := by decide +kernel
theorem dX12_findWin_21 : decode cX12_findWin 21 = .ok (.iastore, 1) := by decide +kernel
theorem dX12_findWin_22 : decode cX12_findWin 22 = .ok (.aload_n 0, 1) := by decide +kernel
theorem dX12_findWin_23 : decode cX12_findWin 23 = .ok (.iload_n 1, 1) := by decide +kernel
theorem dX12_findWin_24 : decode cX12_findWin 24 = .ok (.invokevirtual 439, 3) := by decide +kernel
theorem dX12_findWin_27 : decode cX12_findWin 27 = .ok (.ifCond .eq 13, 3) := by decide +kernel
theorem dX12_findWin_30 : decode cX12_findWin 30 = .ok (.aload_n 0, 1) := by decide +kernel
theorem dX12_findWin_31 : decode cX12_findWin 31 = .ok (.iconst 1, 1) := by decide +kernel
theorem dX12_findWin_32 : decode cX12_findWin 32 = .ok (.iload_n 1, 1) := by decide +kernel
theorem dX12_findWin_33 : decode cX12_findWin 33 = .ok (.isub, 1) := by decide +kernel
theorem dX12_findWin_34 : decode cX12_findWin 34 = .ok (.invokevirtual 439, 3) := by decide +kernel
theorem dX12_findWin_37 : decode cX12_findWin 37 = .ok (.ifCond .ne 17, 3) := by decide +kernel
theorem dX12_findWin_40 : decode cX12_findWin 40 = .ok (.aload_n 0, 1) := by decide +kernel
theorem dX12_findWin_41 : decode cX12_findWin 41 = .ok (.iload_n 1, 1) := by decide +kernel
theorem dX12_findWin_42 : decode cX12_findWin 42 = .ok (.invokevirtual 439, 3) := by decide +kernel
theorem dX12_findWin_45 : decode cX12_findWin 45 = .ok (.ifCond .le 7, 3) := by decide +kernel
theorem dX12_findWin_48 : decode cX12_findWin 48 = .ok (.iconst 1, 1) := by decide +kernel
theorem dX12_findWin_49 : decode cX12_findWin 49 = .ok (.goto 4, 3) := by decide +kernel
theorem dX12_findWin_52 : decode cX12_findWin 52 = .ok (.iconst 0, 1) := by decide +kernel
theorem dX12_findWin_53 : decode cX12_findWin 53 = .ok (.ireturn, 1) := by decide +kernel
theorem dX12_findWin_54 : decode cX12_findWin 54 = .ok (.aload_n 0, 1) := by decide +kernel
theorem dX12_findWin_55 : decode cX12_findWin 55 = .ok (.iconst 0, 1) := by decide +kernel
theorem dX12_findWin_56 : decode cX12_findWin 56 = .ok (.invokevirtual 509, 3) := by decide +kernel
theorem dX12_findWin_59 : decode cX12_findWin 59 = .ok (.iconst 1, 1) := by decide +kernel
theorem dX12_findWin_60 : decode cX12_findWin 60 = .ok (.istore 4, 2) := by decide +kernel
theorem dX12_findWin_62 : decode cX12_findWin 62 = .ok (.iload 4, 2) := by decide +kernel
theorem dX12_findWin_64 : decode cX12_findWin 64 = .ok (.iload_n 2, 1) := by decide +kernel
theorem dX12_findWin_65 : decode cX12_findWin 65 = .ok (.if_icmp .gt 120, 3) := by decide +kernel
theorem dX12_findWin_68 : decode cX12_findWin 68 = .ok (.iconst 0, 1) := by decide +kernel
theorem dX12_findWin_69 : decode cX12_findWin 69 = .ok (.istore 5, 2) := by decide +kernel
theorem dX12_findWin_71 : decode cX12_findWin 71 = .ok (.iload 5, 2) := by decide +kernel
theorem dX12_findWin_73 : decode cX12_findWin 73 = .ok (.iload 4, 2) := by decide +kernel
theorem dX12_findWin_75 : decode cX12_findWin 75 = .ok (.invokestatic 483, 3) := by decide +kernel
theorem dX12_findWin_78 : decode cX12_findWin 78 = .ok (.if_icmp .ge 101, 3) := by decide +kernel
theorem dX12_findWin_81 : decode cX12_findWin 81 = .ok (.aload_n 0, 1) := by decide +kernel
theorem dX12_findWin_82 : decode cX12_findWin 82 = .ok (.iconst 0, 1) := by decide +kernel
theorem dX12_findWin_83 : decode cX12_findWin 83 = .ok (.invokevirtual 515, 3) := by decide +kernel
theorem dX12_findWin_86 : decode cX12_findWin 86 = .ok (.aload_n 0, 1) := by decide +kernel
theorem dX12_findWin_87 : decode cX12_findWin 87 = .ok (.iload 4, 2) := by decide +kernel
theorem dX12_findWin_89 : decode cX12_findWin 89 = .ok (.iload 5, 2) := by decide +kernel
theorem dX12_findWin_91 : decode cX12_findWin 91 = .ok (.invokevirtual 486, 3) := by decide +kernel
theorem dX12_findWin_94 : decode cX12_findWin 94 = .ok (.aload_n 0, 1) := by decide +kernel
theorem dX12_findWin_95 : decode cX12_findWin 95 = .ok (.aload_n 0, 1) := by decide +kernel
theorem dX12_findWin_96 : decode cX12_findWin 96 = .ok (.iconst 1, 1) := by decide +kernel
theorem dX12_findWin_97 : decode cX12_findWin 97 = .ok (.aload_n 0, 1) := by decide +kernel
theorem dX12_findWin_98 : decode cX12_findWin 98 = .ok (.getfield 296, 3) := by decide +kernel
theorem dX12_findWin_101 : decode cX12_findWin 101 = .ok (.isub, 1) := by decide +kernel
theorem dX12_findWin_102 : decode cX12_findWin 102 = .ok (.invokevirtual 446, 3) := by decide +kernel
theorem dX12_findWin_105 : decode cX12_findWin 105 = .ok (.invokevirtual 392, 3) := by decide +kernel
theorem dX12_findWin_108 : decode cX12_findWin 108 = .ok (.lstore 6, 2) := by decide +kernel
theorem dX12_findWin_110 : decode cX12_findWin 110 = .ok (.aload_n 0, 1) := by decide +kernel
theorem dX12_findWin_111 : decode cX12_findWin 111 = .ok (.lload 6, 2) := by decide +kernel
theorem dX12_findWin_113 : decode cX12_findWin 113 = .ok (.iload_n 3, 1) := by decide +kernel
theorem dX12_findWin_114 : decode cX12_findWin 114 = .ok (.invokevirtual 542, 3) := by decide +kernel
theorem dX12_findWin_117 : decode cX12_findWin 117 = .ok (.ifCond .eq 56, 3) := by decide +kernel
theorem dX12_findWin_120 : decode cX12_findWin 120 = .ok (.aload_n 0, 1) := by decide +kernel
theorem dX12_findWin_121 : decode cX12_findWin 121 = .ok (.getfield 151, 3) := by decide +kernel
theorem dX12_findWin_124 : decode cX12_findWin 124 = .ok (.iconst 0, 1) := by decide +kernel
theorem dX12_findWin_125 : decode cX12_findWin 125 = .ok (.iload 4, 2) := by decide +kernel
theorem dX12_findWin_127 : decode cX12_findWin 127 = .ok (.iastore, 1) := by decide +kernel
theorem dX12_findWin_128 : decode cX12_findWin 128 = .ok (.aload_n 0, 1) := by decide +kernel
theorem dX12_findWin_129 : decode cX12_findWin 129 = .ok (.getfield 151, 3) := by decide +kernel
theorem dX12_findWin_132 : decode cX12_findWin 132 = .ok (.iconst 1, 1) := by decide +kernel
theorem dX12_findWin_133 : decode cX12_findWin 133 = .ok (.iload 4, 2) := by decide +kernel
theorem dX12_findWin_135 : decode cX12_findWin 135 = .ok (.iconst 1, 1) := by decide +kernel
theorem dX12_findWin_136 : decode cX12_findWin 136 = .ok (.if_icmp .ne 8, 3) := by decide +kernel
theorem dX12_findWin_139 : decode cX12_findWin 139 = .ok (.iload 5, 2) := by decide +kernel
theorem dX12_findWin_141 : decode cX12_findWin 141 = .ok (.goto 8, 3) := by decide +kernel
theorem dX12_findWin_144 : decode cX12_findWin 144 = .ok (.iload 5, 2) := by decide +kernel
theorem dX12_findWin_146 : decode cX12_findWin 146 = .ok (.bipush 10, 2) := by decide +kernel
theorem dX12_findWin_148 : decode cX12_findWin 148 = .ok (.idiv, 1) := by decide +kernel
theorem dX12_findWin_149 : decode cX12_findWin 149 = .ok (.iastore, 1) := by decide +kernel
theorem dX12_findWin_150 : decode cX12_findWin 150 = .ok (.aload_n 0, 1) := by decide +kernel
theorem dX12_findWin_151 : decode cX12_findWin 151 = .ok (.getfield 151, 3) := by decide +kernel
theorem dX12_findWin_154 : decode cX12_findWin 154 = .ok (.iconst 2, 1) := by decide +kernel
theorem dX12_findWin_155 : decode cX12_findWin 155 = .ok (.iload 4, 2) := by decide +kernel
theorem dX12_findWin_157 : decode cX12_findWin 157 = .ok (.iconst 1, 1) := by decide +kernel
theorem dX12_findWin_158 : decode cX12_findWin 158 = .ok (.if_icmp .ne 7, 3) := by decide +kernel
theorem dX12_findWin_161 : decode cX12_findWin 161 = .ok (.iconst (-1), 1) := by decide +kernel
theorem dX12_findWin_162 : decode cX12_findWin 162 = .ok (.goto 8, 3) := by decide +kernel
theorem dX12_findWin_165 : decode cX12_findWin 165 = .ok (.iload 5, 2) := by decide +kernel
theorem dX12_findWin_167 : decode cX12_findWin 167 = .ok (.bipush 10, 2) := by decide +kernel
theorem dX12_findWin_169 : decode cX12_findWin 169 = .ok (.irem, 1) := by decide +kernel
theorem dX12_findWin_170 : decode cX12_findWin 170 = .ok (.iastore, 1) := by decide +kernel
theorem dX12_findWin_171 : decode cX12_findWin 171 = .ok (.iconst 1, 1) := by decide +kernel
theorem dX12_findWin_172 : decode cX12_findWin 172 = .ok (.ireturn, 1) := by decide +kernel
theorem dX12_findWin_173 : decode cX12_findWin 173 = .ok (.iinc 5 1, 3) := by decide +kernel
theorem dX12_findWin_176 : decode cX12_findWin 176 = .ok (.goto (-105), 3) := by decide +kernel
theorem dX12_findWin_179 : decode cX12_findWin 179 = .ok (.iinc 4 1, 3) := by decide +kernel
theorem dX12_findWin_182 : decode cX12_findWin 182 = .ok (.goto (-120), 3) := by decide +kernel
theorem dX12_findWin_185 : decode cX12_findWin 185 = .ok (.iconst 0, 1) := by decide +kernel
theorem dX12_findWin_186 : decode cX12_findWin 186 = .ok (.ireturn, 1) := by decide +kernel
theorem dX12_canAsk_0 : decode cX12_canAsk 0 = .ok (.aload_n 0, 1) := by decide +kernel
theorem dX12_canAsk_1 : decode cX12_canAsk 1 = .ok (.iload_n 1, 1) := by decide +kernel
theorem dX12_canAsk_2 : decode cX12_canAsk 2 = .ok (.invokevirtual 302, 3) := by decide +kernel
theorem dX12_canAsk_5 : decode cX12_canAsk 5 = .ok (.ifCond .eq 25, 3) := by decide +kernel
theorem dX12_canAsk_8 : decode cX12_canAsk 8 = .ok (.iload_n 2, 1) := by decide +kernel
theorem dX12_canAsk_9 : decode cX12_canAsk 9 = .ok (.iconst 0, 1) := by decide +kernel
theorem dX12_canAsk_10 : decode cX12_canAsk 10 = .ok (.iconst 1, 1) := by decide +kernel
theorem dX12_canAsk_11 : decode cX12_canAsk 11 = .ok (.invokestatic 165, 3) := by decide +kernel
theorem dX12_canAsk_14 : decode cX12_canAsk 14 = .ok (.ifCond .eq 16, 3) := by decide +kernel
theorem dX12_canAsk_17 : decode cX12_canAsk 17 = .ok (.iload_n 3, 1) := by decide +kernel
theorem dX12_canAsk_18 : decode cX12_canAsk 18 = .ok (.iconst 1, 1) := by decide +kernel
theorem dX12_canAsk_19 : decode cX12_canAsk 19 = .ok (.iconst 2, 1) := by decide +kernel
theorem dX12_canAsk_20 : decode cX12_canAsk 20 = .ok (.invokestatic 165, 3) := by decide +kernel
theorem dX12_canAsk_23 : decode cX12_canAsk 23 = .ok (.ifCond .eq 7, 3) := by decide +kernel
theorem dX12_canAsk_26 : decode cX12_canAsk 26 = .ok (.iconst 1, 1) := by decide +kernel
theorem dX12_canAsk_27 : decode cX12_canAsk 27 = .ok (.goto 4, 3) := by decide +kernel
theorem dX12_canAsk_30 : decode cX12_canAsk 30 = .ok (.iconst 0, 1) := by decide +kernel
theorem dX12_canAsk_31 : decode cX12_canAsk 31 = .ok (.ireturn, 1) := by decide +kernel
theorem dX12_wins_0 : decode cX12_wins 0 = .ok (.aload_n 0, 1) := by decide +kernel
theorem dX12_wins_1 : decode cX12_wins 1 = .ok (.iconst 0, 1) := by decide +kernel
theorem dX12_wins_2 : decode cX12_wins 2 = .ok (.putfield 157, 3) := by decide +kernel
theorem dX12_wins_5 : decode cX12_wins 5 = .ok (.aload_n 0, 1) := by decide +kernel
theorem dX12_wins_6 : decode cX12_wins 6 = .ok (.iload_n 1, 1) := by decide +kernel
theorem dX12_wins_7 : decode cX12_wins 7 = .ok (.iload_n 2, 1) := by decide +kernel
theorem dX12_wins_8 : decode cX12_wins 8 = .ok (.iload_n 3, 1) := by decide +kernel
theorem dX12_wins_9 : decode cX12_wins 9 = .ok (.invokevirtual 545, 3) := by decide +kernel
theorem dX12_wins_12 : decode cX12_wins 12 = .ok (.ifCond .eq 23, 3) := by decide +kernel
theorem dX12_wins_15 : decode cX12_wins 15 = .ok (.iload 4, 2) := by decide +kernel
theorem dX12_wins_17 : decode cX12_wins 17 = .ok (.iconst 1, 1) := by decide +kernel
theorem dX12_wins_18 : decode cX12_wins 18 = .ok (.iconst 3, 1) := by decide +kernel
theorem dX12_wins_19 : decode cX12_wins 19 = .ok (.invokestatic 165, 3) := by decide +kernel
theorem dX12_wins_22 : decode cX12_wins 22 = .ok (.ifCond .eq 13, 3) := by decide +kernel
theorem dX12_wins_25 : decode cX12_wins 25 = .ok (.iload 5, 2) := by decide +kernel
theorem dX12_wins_27 : decode cX12_wins 27 = .ok (.iconst 0, 1) := by decide +kernel
theorem dX12_wins_28 : decode cX12_wins 28 = .ok (.iconst 3, 1) := by decide +kernel
theorem dX12_wins_29 : decode cX12_wins 29 = .ok (.invokestatic 165, 3) := by decide +kernel
theorem dX12_wins_32 : decode cX12_wins 32 = .ok (.ifCond .ne 6, 3) := by decide +kernel
theorem dX12_wins_35 : decode cX12_wins 35 = .ok (.bipush (-2), 2) := by decide +kernel
theorem dX12_wins_37 : decode cX12_wins 37 = .ok (.ireturn, 1) := by decide +kernel
theorem dX12_wins_38 : decode cX12_wins 38 = .ok (.aload_n 0, 1) := by decide +kernel
theorem dX12_wins_39 : decode cX12_wins 39 = .ok (.iload_n 2, 1) := by decide +kernel
theorem dX12_wins_40 : decode cX12_wins 40 = .ok (.iload_n 3, 1) := by decide +kernel
theorem dX12_wins_41 : decode cX12_wins 41 = .ok (.iload 4, 2) := by decide +kernel
theorem dX12_wins_43 : decode cX12_wins 43 = .ok (.invokevirtual 548, 3) := by decide +kernel
theorem dX12_wins_46 : decode cX12_wins 46 = .ok (.istore 6, 2) := by decide +kernel
theorem dX12_wins_48 : decode cX12_wins 48 = .ok (.iload 5, 2) := by decide +kernel
theorem dX12_wins_50 : decode cX12_wins 50 = .ok (.ifCond .ne 14, 3) := by decide +kernel
theorem dX12_wins_53 : decode cX12_wins 53 = .ok (.iload 6, 2) := by decide +kernel
theorem dX12_wins_55 : decode cX12_wins 55 = .ok (.ifCond .eq 7, 3) := by decide +kernel
theorem dX12_wins_58 : decode cX12_wins 58 = .ok (.iconst 1, 1) := by decide +kernel
theorem dX12_wins_59 : decode cX12_wins 59 = .ok (.goto 4, 3) := by decide +kernel
theorem dX12_wins_62 : decode cX12_wins 62 = .ok (.iconst 0, 1) := by decide +kernel
theorem dX12_wins_63 : decode cX12_wins 63 = .ok (.ireturn, 1) := by decide +kernel
theorem dX12_wins_64 : decode cX12_wins 64 = .ok (.iload 6, 2) := by decide +kernel
theorem dX12_wins_66 : decode cX12_wins 66 = .ok (.ifCond .eq 12, 3) := by decide +kernel
theorem dX12_wins_69 : decode cX12_wins 69 = .ok (.aload_n 0, 1) := by decide +kernel
theorem dX12_wins_70 : decode cX12_wins 70 = .ok (.getfield 151, 3) := by decide +kernel
theorem dX12_wins_73 : decode cX12_wins 73 = .ok (.iconst 0, 1) := by decide +kernel
theorem dX12_wins_74 : decode cX12_wins 74 = .ok (.iaload, 1) := by decide +kernel
theorem dX12_wins_75 : decode cX12_wins 75 = .ok (.ifCond .ne 7, 3) := by decide +kernel
theorem dX12_wins_78 : decode cX12_wins 78 = .ok (.iconst (-1), 1) := by decide +kernel
theorem dX12_wins_79 : decode cX12_wins 79 = .ok (.goto 44, 3) := by decide +kernel
theorem dX12_wins_82 : decode cX12_wins 82 = .ok (.iload 5, 2) := by decide +kernel
theorem dX12_wins_84 : decode cX12_wins 84 = .ok (.iconst 1, 1) := by decide +kernel
theorem dX12_wins_85 : decode cX12_wins 85 = .ok (.if_icmp .ne 12, 3) := by decide +kernel
theorem dX12_wins_88 : decode cX12_wins 88 = .ok (.aload_n 0, 1) := by decide +kernel
theorem dX12_wins_89 : decode cX12_wins 89 = .ok (.getfield 151, 3) := by decide +kernel
theorem dX12_wins_92 : decode cX12_wins 92 = .ok (.iconst 0, 1) := by decide +kernel
theorem dX12_wins_93 : decode cX12_wins 93 = .ok (.iaload, 1) := by decide +kernel
theorem dX12_wins_94 : decode cX12_wins 94 = .ok (.goto 29, 3) := by decide +kernel
theorem dX12_wins_97 : decode cX12_wins 97 = .ok (.iload 5, 2) := by decide +kernel
theorem dX12_wins_99 : decode cX12_wins 99 = .ok (.iconst 1, 1) := by decide +kernel
theorem dX12_wins_100 : decode cX12_wins 100 = .ok (.isub, 1) := by decide +kernel
theorem dX12_wins_101 : decode cX12_wins 101 = .ok (.aload_n 0, 1) := by decide +kernel
theorem dX12_wins_102 : decode cX12_wins 102 = .ok (.getfield 151, 3) := by decide +kernel
theorem dX12_wins_105 : decode cX12_wins 105 = .ok (.iconst 0, 1) := by decide +kernel
theorem dX12_wins_106 : decode cX12_wins 106 = .ok (.iaload, 1) := by decide +kernel
theorem dX12_wins_107 : decode cX12_wins 107 = .ok (.if_icmp .gt 15, 3) := by decide +kernel
theorem dX12_wins_110 : decode cX12_wins 110 = .ok (.aload_n 0, 1) := by decide +kernel
theorem dX12_wins_111 : decode cX12_wins 111 = .ok (.getfield 151, 3) := by decide +kernel
theorem dX12_wins_114 : decode cX12_wins 114 = .ok (.iload 5, 2) := by decide +kernel
theorem dX12_wins_116 : decode cX12_wins 116 = .ok (.iconst 1, 1) := by decide +kernel
theorem dX12_wins_117 : decode cX12_wins 117 = .ok (.isub, 1) := by decide +kernel
theorem dX12_wins_118 : decode cX12_wins 118 = .ok (.iaload, 1) := by decide +kernel
theorem dX12_wins_119 : decode cX12_wins 119 = .ok (.goto 4, 3) := by decide +kernel
theorem dX12_wins_122 : decode cX12_wins 122 = .ok (.iconst (-1), 1) := by decide +kernel
theorem dX12_wins_123 : decode cX12_wins 123 = .ok (.ireturn, 1) := by decide +kernel
theorem dX12_soonest_0 : decode cX12_soonest 0 = .ok (.aload_n 0, 1) := by decide +kernel
theorem dX12_soonest_1 : decode cX12_soonest 1 = .ok (.iconst 0, 1) := by decide +kernel
theorem dX12_soonest_2 : decode cX12_soonest 2 = .ok (.putfield 157, 3) := by decide +kernel
theorem dX12_soonest_5 : decode cX12_soonest 5 = .ok (.iconst 1, 1) := by decide +kernel
theorem dX12_soonest_6 : decode cX12_soonest 6 = .ok (.istore 4, 2) := by decide +kernel
theorem dX12_soonest_8 : decode cX12_soonest 8 = .ok (.iload 4, 2) := by decide +kernel
theorem dX12_soonest_10 : decode cX12_soonest 10 = .ok (.iconst 3, 1) := by decide +kernel
theorem dX12_soonest_11 : decode cX12_soonest 11 = .ok (.if_icmp .gt 33, 3) := by decide +kernel
theorem dX12_soonest_14 : decode cX12_soonest 14 = .ok (.aload_n 0, 1) := by decide +kernel
theorem dX12_soonest_15 : decode cX12_soonest 15 = .ok (.iload_n 1, 1) := by decide +kernel
theorem dX12_soonest_16 : decode cX12_soonest 16 = .ok (.iload_n 2, 1) := by decide +kernel
theorem dX12_soonest_17 : decode cX12_soonest 17 = .ok (.iload_n 3, 1) := by decide +kernel
theorem dX12_soonest_18 : decode cX12_soonest 18 = .ok (.invokevirtual 545, 3) := by decide +kernel
theorem dX12_soonest_21 : decode cX12_soonest 21 = .ok (.ifCond .eq 23, 3) := by decide +kernel
theorem dX12_soonest_24 : decode cX12_soonest 24 = .ok (.aload_n 0, 1) := by decide +kernel
theorem dX12_soonest_25 : decode cX12_soonest 25 = .ok (.iload_n 2, 1) := by decide +kernel
theorem dX12_soonest_26 : decode cX12_soonest 26 = .ok (.iload_n 3, 1) := by decide +kernel
theorem dX12_soonest_27 : decode cX12_soonest 27 = .ok (.iload 4, 2) := by decide +kernel
theorem dX12_soonest_29 : decode cX12_soonest 29 = .ok (.invokevirtual 548, 3) := by decide +kernel
theorem dX12_soonest_32 : decode cX12_soonest 32 = .ok (.ifCond .eq 6, 3) := by decide +kernel
theorem dX12_soonest_35 : decode cX12_soonest 35 = .ok (.iload 4, 2) := by decide +kernel
theorem dX12_soonest_37 : decode cX12_soonest 37 = .ok (.ireturn, 1) := by decide +kernel
theorem dX12_soonest_38 : decode cX12_soonest 38 = .ok (.iinc 4 1, 3) := by decide +kernel
theorem dX12_soonest_41 : decode cX12_soonest 41 = .ok (.goto (-33), 3) := by decide +kernel
theorem dX12_soonest_44 : decode cX12_soonest 44 = .ok (.iconst (-1), 1) := by decide +kernel
theorem dX12_soonest_45 : decode cX12_soonest 45 = .ok (.ireturn, 1) := by decide +kernel
theorem dX12_draw_0 : decode cX12_draw 0 = .ok (.aload_n 0, 1) := by decide +kernel
theorem dX12_draw_1 : decode cX12_draw 1 = .ok (.aload_n 0, 1) := by decide +kernel
theorem dX12_draw_2 : decode cX12_draw 2 = .ok (.getfield 551, 3) := by decide +kernel
theorem dX12_draw_5 : decode cX12_draw 5 = .ok (.ldc_w 554, 3) := by decide +kernel
theorem dX12_draw_8 : decode cX12_draw 8 = .ok (.imul, 1) := by decide +kernel
theorem dX12_draw_9 : decode cX12_draw 9 = .ok (.sipush 12345, 3) := by decide +kernel
theorem dX12_draw_12 : decode cX12_draw 12 = .ok (.iadd, 1) := by decide +kernel
theorem dX12_draw_13 : decode cX12_draw 13 = .ok (.putfield 551, 3) := by decide +kernel
theorem dX12_draw_16 : decode cX12_draw 16 = .ok (.aload_n 0, 1) := by decide +kernel
theorem dX12_draw_17 : decode cX12_draw 17 = .ok (.getfield 551, 3) := by decide +kernel
theorem dX12_draw_20 : decode cX12_draw 20 = .ok (.bipush 16, 2) := by decide +kernel
theorem dX12_draw_22 : decode cX12_draw 22 = .ok (.iushr, 1) := by decide +kernel
theorem dX12_draw_23 : decode cX12_draw 23 = .ok (.iload_n 1, 1) := by decide +kernel
theorem dX12_draw_24 : decode cX12_draw 24 = .ok (.irem, 1) := by decide +kernel
theorem dX12_draw_25 : decode cX12_draw 25 = .ok (.ireturn, 1) := by decide +kernel
theorem dX12_nthOf_0 : decode cX12_nthOf 0 = .ok (.iload_n 2, 1) := by decide +kernel
theorem dX12_nthOf_1 : decode cX12_nthOf 1 = .ok (.istore_n 3, 1) := by decide +kernel
theorem dX12_nthOf_2 : decode cX12_nthOf 2 = .ok (.iconst 0, 1) := by decide +kernel
theorem dX12_nthOf_3 : decode cX12_nthOf 3 = .ok (.istore 4, 2) := by decide +kernel
theorem dX12_nthOf_5 : decode cX12_nthOf 5 = .ok (.iload 4, 2) := by decide +kernel
theorem dX12_nthOf_7 : decode cX12_nthOf 7 = .ok (.bipush 36, 2) := by decide +kernel
theorem dX12_nthOf_9 : decode cX12_nthOf 9 = .ok (.if_icmp .ge 28, 3) := by decide +kernel
theorem dX12_nthOf_12 : decode cX12_nthOf 12 = .ok (.lload_n 0, 1) := by decide +kernel
theorem dX12_nthOf_13 : decode cX12_nthOf 13 = .ok (.iload 4, 2) := by decide +kernel
theorem dX12_nthOf_15 : decode cX12_nthOf 15 = .ok (.invokestatic 299, 3) := by decide +kernel
theorem dX12_nthOf_18 : decode cX12_nthOf 18 = .ok (.ifCond .eq 13, 3) := by decide +kernel
theorem dX12_nthOf_21 : decode cX12_nthOf 21 = .ok (.iload_n 3, 1) := by decide +kernel
theorem dX12_nthOf_22 : decode cX12_nthOf 22 = .ok (.ifCond .ne 6, 3) := by decide +kernel
theorem dX12_nthOf_25 : decode cX12_nthOf 25 = .ok (.iload 4, 2) := by decide +kernel
theorem dX12_nthOf_27 : decode cX12_nthOf 27 = .ok (.ireturn, 1) := by decide +kernel
theorem dX12_nthOf_28 : decode cX12_nthOf 28 = .ok (.iinc 3 (-1), 3) := by decide +kernel
theorem dX12_nthOf_31 : decode cX12_nthOf 31 = .ok (.iinc 4 1, 3) := by decide +kernel
theorem dX12_nthOf_34 : decode cX12_nthOf 34 = .ok (.goto (-29), 3) := by decide +kernel
theorem dX12_nthOf_37 : decode cX12_nthOf 37 = .ok (.iconst (-1), 1) := by decide +kernel
theorem dX12_nthOf_38 : decode cX12_nthOf 38 = .ok (.ireturn, 1) := by decide +kernel
theorem dX12_drawn_0 : decode cX12_drawn 0 = .ok (.aload_n 0, 1) := by decide +kernel
theorem dX12_drawn_1 : decode cX12_drawn 1 = .ok (.iconst 0, 1) := by decide +kernel
theorem dX12_drawn_2 : decode cX12_drawn 2 = .ok (.putfield 157, 3) := by decide +kernel
theorem dX12_drawn_5 : decode cX12_drawn 5 = .ok (.iload_n 3, 1) := by decide +kernel
theorem dX12_drawn_6 : decode cX12_drawn 6 = .ok (.iconst 1, 1) := by decide +kernel
theorem dX12_drawn_7 : decode cX12_drawn 7 = .ok (.bipush 30, 2) := by decide +kernel
theorem dX12_drawn_9 : decode cX12_drawn 9 = .ok (.invokestatic 165, 3) := by decide +kernel
theorem dX12_drawn_12 : decode cX12_drawn 12 = .ok (.ifCond .eq 11, 3) := by decide +kernel
theorem dX12_drawn_15 : decode cX12_drawn 15 = .ok (.aload_n 0, 1) := by decide +kernel
theorem dX12_drawn_16 : decode cX12_drawn 16 = .ok (.iload_n 1, 1) := by decide +kernel
theorem dX12_drawn_17 : decode cX12_drawn 17 = .ok (.invokevirtual 302, 3) := by decide +kernel
theorem dX12_drawn_20 : decode cX12_drawn 20 = .ok (.ifCond .ne 6, 3) := by decide +kernel
theorem dX12_drawn_23 : decode cX12_drawn 23 = .ok (.bipush (-2), 2) := by decide +kernel
theorem dX12_drawn_25 : decode cX12_drawn 25 = .ok (.ireturn, 1) := by decide +kernel
theorem dX12_drawn_26 : decode cX12_drawn 26 = .ok (.aload_n 0, 1) := by decide +kernel
theorem dX12_drawn_27 : decode cX12_drawn 27 = .ok (.iload_n 2, 1) := by decide +kernel
theorem dX12_drawn_28 : decode cX12_drawn 28 = .ok (.putfield 551, 3) := by decide +kernel
theorem dX12_drawn_31 : decode cX12_drawn 31 = .ok (.aload_n 0, 1) := by decide +kernel
theorem dX12_drawn_32 : decode cX12_drawn 32 = .ok (.getfield 60, 3) := by decide +kernel
theorem dX12_drawn_35 : decode cX12_drawn 35 = .ok (.iconst 0, 1) := by decide +kernel
theorem dX12_drawn_36 : decode cX12_drawn 36 = .ok (.iconst 0, 1) := by decide +kernel
theorem dX12_drawn_37 : decode cX12_drawn 37 = .ok (.iastore, 1) := by decide +kernel
theorem dX12_drawn_38 : decode cX12_drawn 38 = .ok (.iconst 0, 1) := by decide +kernel
theorem dX12_drawn_39 : decode cX12_drawn 39 = .ok (.istore 5, 2) := by decide +kernel
theorem dX12_drawn_41 : decode cX12_drawn 41 = .ok (.iload 5, 2) := by decide +kernel
theorem dX12_drawn_43 : decode cX12_drawn 43 = .ok (.iload_n 3, 1) := by decide +kernel
theorem dX12_drawn_44 : decode cX12_drawn 44 = .ok (.if_icmp .ge 107, 3) := by decide +kernel
theorem dX12_drawn_47 : decode cX12_drawn 47 = .ok (.aload_n 0, 1) := by decide +kernel
theorem dX12_drawn_48 : decode cX12_drawn 48 = .ok (.invokevirtual 455, 3) := by decide +kernel
theorem dX12_drawn_51 : decode cX12_drawn 51 = .ok (.ifCond .ne 100, 3) := by decide +kernel
theorem dX12_drawn_54 : decode cX12_drawn 54 = .ok (.aload_n 0, 1) := by decide +kernel
theorem dX12_drawn_55 : decode cX12_drawn 55 = .ok (.getfield 75, 3) := by decide +kernel
theorem dX12_drawn_58 : decode cX12_drawn 58 = .ok (.iconst 0, 1) := by decide +kernel
theorem dX12_drawn_59 : decode cX12_drawn 59 = .ok (.aload_n 0, 1) := by decide +kernel
theorem dX12_drawn_60 : decode cX12_drawn 60 = .ok (.iconst 3, 1) := by decide +kernel
theorem dX12_drawn_61 : decode cX12_drawn 61 = .ok (.invokevirtual 555, 3) := by decide +kernel
theorem dX12_drawn_64 : decode cX12_drawn 64 = .ok (.iconst 1, 1) := by decide +kernel
theorem dX12_drawn_65 : decode cX12_drawn 65 = .ok (.iadd, 1) := by decide +kernel
theorem dX12_drawn_66 : decode cX12_drawn 66 = .ok (.iastore, 1) := by decide +kernel
theorem dX12_drawn_67 : decode cX12_drawn 67 = .ok (.iconst 1, 1) := by decide +kernel
theorem dX12_drawn_68 : decode cX12_drawn 68 = .ok (.istore 6, 2) := by decide +kernel
theorem dX12_drawn_70 : decode cX12_drawn 70 = .ok (.iload 6, 2) := by decide +kernel
theorem dX12_drawn_72 : decode cX12_drawn 72 = .ok (.aload_n 0, 1) := by decide +kernel
theorem dX12_drawn_73 : decode cX12_drawn 73 = .ok (.getfield 75, 3) := by decide +kernel
theorem dX12_drawn_76 : decode cX12_drawn 76 = .ok (.iconst 0, 1) := by decide +kernel
theorem dX12_drawn_77 : decode cX12_drawn 77 = .ok (.iaload, 1) := by decide +kernel
theorem dX12_drawn_78 : decode cX12_drawn 78 = .ok (.if_icmp .gt 22, 3) := by decide +kernel
theorem dX12_drawn_81 : decode cX12_drawn 81 = .ok (.aload_n 0, 1) := by decide +kernel
theorem dX12_drawn_82 : decode cX12_drawn 82 = .ok (.getfield 75, 3) := by decide +kernel
theorem dX12_drawn_85 : decode cX12_drawn 85 = .ok (.iload 6, 2) := by decide +kernel
theorem dX12_drawn_87 : decode cX12_drawn 87 = .ok (.aload_n 0, 1) := by decide +kernel
theorem dX12_drawn_88 : decode cX12_drawn 88 = .ok (.bipush 10, 2) := by decide +kernel
theorem dX12_drawn_90 : decode cX12_drawn 90 = .ok (.invokevirtual 555, 3) := by decide +kernel
theorem dX12_drawn_93 : decode cX12_drawn 93 = .ok (.iastore, 1) := by decide +kernel
theorem dX12_drawn_94 : decode cX12_drawn 94 = .ok (.iinc 6 1, 3) := by decide +kernel
theorem dX12_drawn_97 : decode cX12_drawn 97 = .ok (.goto (-27), 3) := by decide +kernel
theorem dX12_drawn_100 : decode cX12_drawn 100 = .ok (.aload_n 0, 1) := by decide +kernel
theorem dX12_drawn_101 : decode cX12_drawn 101 = .ok (.aload_n 0, 1) := by decide +kernel
theorem dX12_drawn_102 : decode cX12_drawn 102 = .ok (.iconst 1, 1) := by decide +kernel
theorem dX12_drawn_103 : decode cX12_drawn 103 = .ok (.aload_n 0, 1) := by decide +kernel
theorem dX12_drawn_104 : decode cX12_drawn 104 = .ok (.getfield 296, 3) := by decide +kernel
theorem dX12_drawn_107 : decode cX12_drawn 107 = .ok (.isub, 1) := by decide +kernel
theorem dX12_drawn_108 : decode cX12_drawn 108 = .ok (.invokevirtual 446, 3) := by decide +kernel
theorem dX12_drawn_111 : decode cX12_drawn 111 = .ok (.invokevirtual 392, 3) := by decide +kernel
theorem dX12_drawn_114 : decode cX12_drawn 114 = .ok (.lstore 6, 2) := by decide +kernel
theorem dX12_drawn_116 : decode cX12_drawn 116 = .ok (.aload_n 0, 1) := by decide +kernel
theorem dX12_drawn_117 : decode cX12_drawn 117 = .ok (.lload 6, 2) := by decide +kernel
theorem dX12_drawn_119 : decode cX12_drawn 119 = .ok (.lconst 0, 1) := by decide +kernel
theorem dX12_drawn_120 : decode cX12_drawn 120 = .ok (.lcmp, 1) := by decide +kernel
theorem dX12_drawn_121 : decode cX12_drawn 121 = .ok (.ifCond .ne 7, 3) := by decide +kernel
theorem dX12_drawn_124 : decode cX12_drawn 124 = .ok (.iconst (-1), 1) := by decide +kernel
theorem dX12_drawn_125 : decode cX12_drawn 125 = .ok (.goto 17, 3) := by decide +kernel
theorem dX12_drawn_128 : decode cX12_drawn 128 = .ok (.lload 6, 2) := by decide +kernel
theorem dX12_drawn_130 : decode cX12_drawn 130 = .ok (.aload_n 0, 1) := by decide +kernel
theorem dX12_drawn_131 : decode cX12_drawn 131 = .ok (.lload 6, 2) := by decide +kernel
theorem dX12_drawn_133 : decode cX12_drawn 133 = .ok (.invokestatic 305, 3) := by decide +kernel
theorem dX12_drawn_136 : decode cX12_drawn 136 = .ok (.invokevirtual 555, 3) := by decide +kernel
theorem dX12_drawn_139 : decode cX12_drawn 139 = .ok (.invokestatic 558, 3) := by decide +kernel
theorem dX12_drawn_142 : decode cX12_drawn 142 = .ok (.invokevirtual 464, 3) := by decide +kernel
theorem dX12_drawn_145 : decode cX12_drawn 145 = .ok (.iinc 5 1, 3) := by decide +kernel
theorem dX12_drawn_148 : decode cX12_drawn 148 = .ok (.goto (-107), 3) := by decide +kernel
theorem dX12_drawn_151 : decode cX12_drawn 151 = .ok (.iload 4, 2) := by decide +kernel
theorem dX12_drawn_153 : decode cX12_drawn 153 = .ok (.bipush 30, 2) := by decide +kernel
theorem dX12_drawn_155 : decode cX12_drawn 155 = .ok (.if_icmp .ne 8, 3) := by decide +kernel
theorem dX12_drawn_158 : decode cX12_drawn 158 = .ok (.iload 5, 2) := by decide +kernel
theorem dX12_drawn_160 : decode cX12_drawn 160 = .ok (.goto 9, 3) := by decide +kernel
theorem dX12_drawn_163 : decode cX12_drawn 163 = .ok (.aload_n 0, 1) := by decide +kernel
theorem dX12_drawn_164 : decode cX12_drawn 164 = .ok (.iload 4, 2) := by decide +kernel
theorem dX12_drawn_166 : decode cX12_drawn 166 = .ok (.invokevirtual 473, 3) := by decide +kernel
theorem dX12_drawn_169 : decode cX12_drawn 169 = .ok (.ireturn, 1) := by decide +kernel
theorem dX12_count_0 : decode cX12_count 0 = .ok (.aload_n 0, 1) := by decide +kernel
theorem dX12_count_1 : decode cX12_count 1 = .ok (.iconst 0, 1) := by decide +kernel
theorem dX12_count_2 : decode cX12_count 2 = .ok (.putfield 157, 3) := by decide +kernel
theorem dX12_count_5 : decode cX12_count 5 = .ok (.iload_n 1, 1) := by decide +kernel
theorem dX12_count_6 : decode cX12_count 6 = .ok (.iconst 0, 1) := by decide +kernel
theorem dX12_count_7 : decode cX12_count 7 = .ok (.iconst 2, 1) := by decide +kernel
theorem dX12_count_8 : decode cX12_count 8 = .ok (.invokestatic 165, 3) := by decide +kernel
theorem dX12_count_11 : decode cX12_count 11 = .ok (.ifCond .eq 12, 3) := by decide +kernel
theorem dX12_count_14 : decode cX12_count 14 = .ok (.aload_n 0, 1) := by decide +kernel
theorem dX12_count_15 : decode cX12_count 15 = .ok (.getfield 23, 3) := by decide +kernel
theorem dX12_count_18 : decode cX12_count 18 = .ok (.iload_n 1, 1) := by decide +kernel
theorem dX12_count_19 : decode cX12_count 19 = .ok (.iaload, 1) := by decide +kernel
theorem dX12_count_20 : decode cX12_count 20 = .ok (.goto 5, 3) := by decide +kernel
theorem dX12_count_23 : decode cX12_count 23 = .ok (.bipush (-2), 2) := by decide +kernel
theorem dX12_count_25 : decode cX12_count 25 = .ok (.ireturn, 1) := by decide +kernel
theorem dX12_image_0 : decode cX12_image 0 = .ok (.aload_n 0, 1) := by decide +kernel
theorem dX12_image_1 : decode cX12_image 1 = .ok (.iconst 0, 1) := by decide +kernel
theorem dX12_image_2 : decode cX12_image 2 = .ok (.putfield 157, 3) := by decide +kernel
theorem dX12_image_5 : decode cX12_image 5 = .ok (.iload_n 1, 1) := by decide +kernel
theorem dX12_image_6 : decode cX12_image 6 = .ok (.iconst 0, 1) := by decide +kernel
theorem dX12_image_7 : decode cX12_image 7 = .ok (.iconst 2, 1) := by decide +kernel
theorem dX12_image_8 : decode cX12_image 8 = .ok (.invokestatic 165, 3) := by decide +kernel
theorem dX12_image_11 : decode cX12_image 11 = .ok (.ifCond .ne 5, 3) := by decide +kernel
theorem dX12_image_14 : decode cX12_image 14 = .ok (.iconst 0, 1) := by decide +kernel
theorem dX12_image_15 : decode cX12_image 15 = .ok (.ireturn, 1) := by decide +kernel
theorem dX12_image_16 : decode cX12_image 16 = .ok (.aload_n 0, 1) := by decide +kernel
theorem dX12_image_17 : decode cX12_image 17 = .ok (.iconst 0, 1) := by decide +kernel
theorem dX12_image_18 : decode cX12_image 18 = .ok (.iload_n 1, 1) := by decide +kernel
theorem dX12_image_19 : decode cX12_image 19 = .ok (.iconst 1, 1) := by decide +kernel
theorem dX12_image_20 : decode cX12_image 20 = .ok (.iadd, 1) := by decide +kernel
theorem dX12_image_21 : decode cX12_image 21 = .ok (.invokevirtual 562, 3) := by decide +kernel
theorem dX12_image_24 : decode cX12_image 24 = .ok (.aload_n 0, 1) := by decide +kernel
theorem dX12_image_25 : decode cX12_image 25 = .ok (.getfield 154, 3) := by decide +kernel
theorem dX12_image_28 : decode cX12_image 28 = .ok (.iload_n 1, 1) := by decide +kernel
theorem dX12_image_29 : decode cX12_image 29 = .ok (.iconst 1, 1) := by decide +kernel
theorem dX12_image_30 : decode cX12_image 30 = .ok (.bastore, 1) := by decide +kernel
theorem dX12_image_31 : decode cX12_image 31 = .ok (.iconst 1, 1) := by decide +kernel
theorem dX12_image_32 : decode cX12_image 32 = .ok (.ireturn, 1) := by decide +kernel
theorem dX12_again_0 : decode cX12_again 0 = .ok (.aload_n 0, 1) := by decide +kernel
theorem dX12_again_1 : decode cX12_again 1 = .ok (.iconst 0, 1) := by decide +kernel
theorem dX12_again_2 : decode cX12_again 2 = .ok (.putfield 157, 3) := by decide +kernel
theorem dX12_again_5 : decode cX12_again 5 = .ok (.iload_n 1, 1) := by decide +kernel
theorem dX12_again_6 : decode cX12_again 6 = .ok (.iconst 0, 1) := by decide +kernel
theorem dX12_again_7 : decode cX12_again 7 = .ok (.iconst 2, 1) := by decide +kernel
theorem dX12_again_8 : decode cX12_again 8 = .ok (.invokestatic 165, 3) := by decide +kernel
theorem dX12_again_11 : decode cX12_again 11 = .ok (.ifCond .eq 12, 3) := by decide +kernel
theorem dX12_again_14 : decode cX12_again 14 = .ok (.aload_n 0, 1) := by decide +kernel
theorem dX12_again_15 : decode cX12_again 15 = .ok (.getfield 154, 3) := by decide +kernel
theorem dX12_again_18 : decode cX12_again 18 = .ok (.iload_n 1, 1) := by decide +kernel
theorem dX12_again_19 : decode cX12_again 19 = .ok (.baload, 1) := by decide +kernel
theorem dX12_again_20 : decode cX12_again 20 = .ok (.ifCond .ne 5, 3) := by decide +kernel
theorem dX12_again_23 : decode cX12_again 23 = .ok (.iconst 0, 1) := by decide +kernel
theorem dX12_again_24 : decode cX12_again 24 = .ok (.ireturn, 1) := by decide +kernel
theorem dX12_again_25 : decode cX12_again 25 = .ok (.aload_n 0, 1) := by decide +kernel
theorem dX12_again_26 : decode cX12_again 26 = .ok (.iload_n 1, 1) := by decide +kernel
theorem dX12_again_27 : decode cX12_again 27 = .ok (.iconst 1, 1) := by decide +kernel
theorem dX12_again_28 : decode cX12_again 28 = .ok (.iadd, 1) := by decide +kernel
theorem dX12_again_29 : decode cX12_again 29 = .ok (.iconst 0, 1) := by decide +kernel
theorem dX12_again_30 : decode cX12_again 30 = .ok (.invokevirtual 562, 3) := by decide +kernel
theorem dX12_again_33 : decode cX12_again 33 = .ok (.iconst 1, 1) := by decide +kernel
theorem dX12_again_34 : decode cX12_again 34 = .ok (.ireturn, 1) := by decide +kernel
theorem dJ11_isValidCodePoint_9a6ad_0 : decode cJ11_isValidCodePoint_9a6ad 0 = .ok (.iload_n 0, 1) := by decide +kernel
theorem dJ11_isValidCodePoint_9a6ad_1 : decode cJ11_isValidCodePoint_9a6ad 1 = .ok (.bipush 16, 2) := by decide +kernel
theorem dJ11_isValidCodePoint_9a6ad_3 : decode cJ11_isValidCodePoint_9a6ad 3 = .ok (.iushr, 1) := by decide +kernel
theorem dJ11_isValidCodePoint_9a6ad_4 : decode cJ11_isValidCodePoint_9a6ad 4 = .ok (.istore_n 1, 1) := by decide +kernel
theorem dJ11_isValidCodePoint_9a6ad_5 : decode cJ11_isValidCodePoint_9a6ad 5 = .ok (.iload_n 1, 1) := by decide +kernel
theorem dJ11_isValidCodePoint_9a6ad_6 : decode cJ11_isValidCodePoint_9a6ad 6 = .ok (.bipush 17, 2) := by decide +kernel
theorem dJ11_isValidCodePoint_9a6ad_8 : decode cJ11_isValidCodePoint_9a6ad 8 = .ok (.if_icmp .ge 7, 3) := by decide +kernel
theorem dJ11_isValidCodePoint_9a6ad_11 : decode cJ11_isValidCodePoint_9a6ad 11 = .ok (.iconst 1, 1) := by decide +kernel
theorem dJ11_isValidCodePoint_9a6ad_12 : decode cJ11_isValidCodePoint_9a6ad 12 = .ok (.goto 4, 3) := by decide +kernel
theorem dJ11_isValidCodePoint_9a6ad_15 : decode cJ11_isValidCodePoint_9a6ad 15 = .ok (.iconst 0, 1) := by decide +kernel
theorem dJ11_isValidCodePoint_9a6ad_16 : decode cJ11_isValidCodePoint_9a6ad 16 = .ok (.ireturn, 1) := by decide +kernel
theorem dJ11_highSurrogate_5068e_0 : decode cJ11_highSurrogate_5068e 0 = .ok (.iload_n 0, 1) := by decide +kernel
theorem dJ11_highSurrogate_5068e_1 : decode cJ11_highSurrogate_5068e 1 = .ok (.bipush 10, 2) := by decide +kernel
theorem dJ11_highSurrogate_5068e_3 : decode cJ11_highSurrogate_5068e 3 = .ok (.iushr, 1) := by decide +kernel
theorem dJ11_highSurrogate_5068e_4 : decode cJ11_highSurrogate_5068e 4 = .ok (.ldc 110, 2) := by decide +kernel
theorem dJ11_highSurrogate_5068e_6 : decode cJ11_highSurrogate_5068e 6 = .ok (.iadd, 1) := by decide +kernel
theorem dJ11_highSurrogate_5068e_7 : decode cJ11_highSurrogate_5068e 7 = .ok (.i2c, 1) := by decide +kernel
theorem dJ11_highSurrogate_5068e_8 : decode cJ11_highSurrogate_5068e 8 = .ok (.ireturn, 1) := by decide +kernel
theorem dJ11_lowSurrogate_5068e_0 : decode cJ11_lowSurrogate_5068e 0 = .ok (.iload_n 0, 1) := by decide +kernel
theorem dJ11_lowSurrogate_5068e_1 : decode cJ11_lowSurrogate_5068e 1 = .ok (.sipush 1023, 3) := by decide +kernel
theorem dJ11_lowSurrogate_5068e_4 : decode cJ11_lowSurrogate_5068e 4 = .ok (.iand, 1) := by decide +kernel
theorem dJ11_lowSurrogate_5068e_5 : decode cJ11_lowSurrogate_5068e 5 = .ok (.ldc 76, 2) := by decide +kernel
theorem dJ11_lowSurrogate_5068e_7 : decode cJ11_lowSurrogate_5068e 7 = .ok (.iadd, 1) := by decide +kernel
theorem dJ11_lowSurrogate_5068e_8 : decode cJ11_lowSurrogate_5068e 8 = .ok (.i2c, 1) := by decide +kernel
theorem dJ11_lowSurrogate_5068e_9 : decode cJ11_lowSurrogate_5068e 9 = .ok (.ireturn, 1) := by decide +kernel
theorem dJ13_bitCount_95d88_0 : decode cJ13_bitCount_95d88 0 = .ok (.lload_n 0, 1) := by decide +kernel
theorem dJ13_bitCount_95d88_1 : decode cJ13_bitCount_95d88 1 = .ok (.lload_n 0, 1) := by decide +kernel
theorem dJ13_bitCount_95d88_2 : decode cJ13_bitCount_95d88 2 = .ok (.iconst 1, 1) := by decide +kernel
theorem dJ13_bitCount_95d88_3 : decode cJ13_bitCount_95d88 3 = .ok (.lushr, 1) := by decide +kernel
theorem dJ13_bitCount_95d88_4 : decode cJ13_bitCount_95d88 4 = .ok (.ldc2_w 314, 3) := by decide +kernel
theorem dJ13_bitCount_95d88_7 : decode cJ13_bitCount_95d88 7 = .ok (.land, 1) := by decide +kernel
theorem dJ13_bitCount_95d88_8 : decode cJ13_bitCount_95d88 8 = .ok (.lsub, 1) := by decide +kernel
theorem dJ13_bitCount_95d88_9 : decode cJ13_bitCount_95d88 9 = .ok (.lstore_n 0, 1) := by decide +kernel
theorem dJ13_bitCount_95d88_10 : decode cJ13_bitCount_95d88 10 = .ok (.lload_n 0, 1) := by decide +kernel
theorem dJ13_bitCount_95d88_11 : decode cJ13_bitCount_95d88 11 = .ok (.ldc2_w 316, 3) := by decide +kernel
theorem dJ13_bitCount_95d88_14 : decode cJ13_bitCount_95d88 14 = .ok (.land, 1) := by decide +kernel
theorem dJ13_bitCount_95d88_15 : decode cJ13_bitCount_95d88 15 = .ok (.lload_n 0, 1) := by decide +kernel
theorem dJ13_bitCount_95d88_16 : decode cJ13_bitCount_95d88 16 = .ok (.iconst 2, 1) := by decide +kernel
theorem dJ13_bitCount_95d88_17 : decode cJ13_bitCount_95d88 17 = .ok (.lushr, 1) := by decide +kernel
theorem dJ13_bitCount_95d88_18 : decode cJ13_bitCount_95d88 18 = .ok (.ldc2_w 316, 3) := by decide +kernel
theorem dJ13_bitCount_95d88_21 : decode cJ13_bitCount_95d88 21 = .ok (.land, 1) := by decide +kernel
theorem dJ13_bitCount_95d88_22 : decode cJ13_bitCount_95d88 22 = .ok (.ladd, 1) := by decide +kernel
theorem dJ13_bitCount_95d88_23 : decode cJ13_bitCount_95d88 23 = .ok (.lstore_n 0, 1) := by decide +kernel
theorem dJ13_bitCount_95d88_24 : decode cJ13_bitCount_95d88 24 = .ok (.lload_n 0, 1) := by decide +kernel
theorem dJ13_bitCount_95d88_25 : decode cJ13_bitCount_95d88 25 = .ok (.lload_n 0, 1) := by decide +kernel
theorem dJ13_bitCount_95d88_26 : decode cJ13_bitCount_95d88 26 = .ok (.iconst 4, 1) := by decide +kernel
theorem dJ13_bitCount_95d88_27 : decode cJ13_bitCount_95d88 27 = .ok (.lushr, 1) := by decide +kernel
theorem dJ13_bitCount_95d88_28 : decode cJ13_bitCount_95d88 28 = .ok (.ladd, 1) := by decide +kernel
theorem dJ13_bitCount_95d88_29 : decode cJ13_bitCount_95d88 29 = .ok (.ldc2_w 318, 3) := by decide +kernel
theorem dJ13_bitCount_95d88_32 : decode cJ13_bitCount_95d88 32 = .ok (.land, 1) := by decide +kernel
theorem dJ13_bitCount_95d88_33 : decode cJ13_bitCount_95d88 33 = .ok (.lstore_n 0, 1) := by decide +kernel
theorem dJ13_bitCount_95d88_34 : decode cJ13_bitCount_95d88 34 = .ok (.lload_n 0, 1) := by decide +kernel
theorem dJ13_bitCount_95d88_35 : decode cJ13_bitCount_95d88 35 = .ok (.lload_n 0, 1) := by decide +kernel
theorem dJ13_bitCount_95d88_36 : decode cJ13_bitCount_95d88 36 = .ok (.bipush 8, 2) := by decide +kernel
theorem dJ13_bitCount_95d88_38 : decode cJ13_bitCount_95d88 38 = .ok (.lushr, 1) := by decide +kernel
theorem dJ13_bitCount_95d88_39 : decode cJ13_bitCount_95d88 39 = .ok (.ladd, 1) := by decide +kernel
theorem dJ13_bitCount_95d88_40 : decode cJ13_bitCount_95d88 40 = .ok (.lstore_n 0, 1) := by decide +kernel
theorem dJ13_bitCount_95d88_41 : decode cJ13_bitCount_95d88 41 = .ok (.lload_n 0, 1) := by decide +kernel
theorem dJ13_bitCount_95d88_42 : decode cJ13_bitCount_95d88 42 = .ok (.lload_n 0, 1) := by decide +kernel
theorem dJ13_bitCount_95d88_43 : decode cJ13_bitCount_95d88 43 = .ok (.bipush 16, 2) := by decide +kernel
theorem dJ13_bitCount_95d88_45 : decode cJ13_bitCount_95d88 45 = .ok (.lushr, 1) := by decide +kernel
theorem dJ13_bitCount_95d88_46 : decode cJ13_bitCount_95d88 46 = .ok (.ladd, 1) := by decide +kernel
theorem dJ13_bitCount_95d88_47 : decode cJ13_bitCount_95d88 47 = .ok (.lstore_n 0, 1) := by decide +kernel
theorem dJ13_bitCount_95d88_48 : decode cJ13_bitCount_95d88 48 = .ok (.lload_n 0, 1) := by decide +kernel
theorem dJ13_bitCount_95d88_49 : decode cJ13_bitCount_95d88 49 = .ok (.lload_n 0, 1) := by decide +kernel
theorem dJ13_bitCount_95d88_50 : decode cJ13_bitCount_95d88 50 = .ok (.bipush 32, 2) := by decide +kernel
theorem dJ13_bitCount_95d88_52 : decode cJ13_bitCount_95d88 52 = .ok (.lushr, 1) := by decide +kernel
theorem dJ13_bitCount_95d88_53 : decode cJ13_bitCount_95d88 53 = .ok (.ladd, 1) := by decide +kernel
theorem dJ13_bitCount_95d88_54 : decode cJ13_bitCount_95d88 54 = .ok (.lstore_n 0, 1) := by decide +kernel
theorem dJ13_bitCount_95d88_55 : decode cJ13_bitCount_95d88 55 = .ok (.lload_n 0, 1) := by decide +kernel
theorem dJ13_bitCount_95d88_56 : decode cJ13_bitCount_95d88 56 = .ok (.l2i, 1) := by decide +kernel
theorem dJ13_bitCount_95d88_57 : decode cJ13_bitCount_95d88 57 = .ok (.bipush 127, 2) := by decide +kernel
theorem dJ13_bitCount_95d88_59 : decode cJ13_bitCount_95d88 59 = .ok (.iand, 1) := by decide +kernel
theorem dJ13_bitCount_95d88_60 : decode cJ13_bitCount_95d88 60 = .ok (.ireturn, 1) := by decide +kernel
theorem dJ9_max_7cf53_0 : decode cJ9_max_7cf53 0 = .ok (.iload_n 0, 1) := by decide +kernel
theorem dJ9_max_7cf53_1 : decode cJ9_max_7cf53 1 = .ok (.iload_n 1, 1) := by decide +kernel
theorem dJ9_max_7cf53_2 : decode cJ9_max_7cf53 2 = .ok (.if_icmp .lt 7, 3) := by decide +kernel
theorem dJ9_max_7cf53_5 : decode cJ9_max_7cf53 5 = .ok (.iload_n 0, 1) := by decide +kernel
theorem dJ9_max_7cf53_6 : decode cJ9_max_7cf53 6 = .ok (.goto 4, 3) := by decide +kernel
theorem dJ9_max_7cf53_9 : decode cJ9_max_7cf53 9 = .ok (.iload_n 1, 1) := by decide +kernel
theorem dJ9_max_7cf53_10 : decode cJ9_max_7cf53 10 = .ok (.ireturn, 1) := by decide +kernel
theorem dJ9_min_7cf53_0 : decode cJ9_min_7cf53 0 = .ok (.iload_n 0, 1) := by decide +kernel
theorem dJ9_min_7cf53_1 : decode cJ9_min_7cf53 1 = .ok (.iload_n 1, 1) := by decide +kernel
theorem dJ9_min_7cf53_2 : decode cJ9_min_7cf53 2 = .ok (.if_icmp .gt 7, 3) := by decide +kernel
theorem dJ9_min_7cf53_5 : decode cJ9_min_7cf53 5 = .ok (.iload_n 0, 1) := by decide +kernel
theorem dJ9_min_7cf53_6 : decode cJ9_min_7cf53 6 = .ok (.goto 4, 3) := by decide +kernel
theorem dJ9_min_7cf53_9 : decode cJ9_min_7cf53 9 = .ok (.iload_n 1, 1) := by decide +kernel
theorem dJ9_min_7cf53_10 : decode cJ9_min_7cf53 10 = .ok (.ireturn, 1) := by decide +kernel
theorem dJ0_length_8abf5_0 : decode cJ0_length_8abf5 0 = .ok (.aload_n 0, 1) := by decide +kernel
theorem dJ0_length_8abf5_1 : decode cJ0_length_8abf5 1 = .ok (.getfield 9, 3) := by decide +kernel
theorem dJ0_length_8abf5_4 : decode cJ0_length_8abf5 4 = .ok (.arraylength, 1) := by decide +kernel
theorem dJ0_length_8abf5_5 : decode cJ0_length_8abf5 5 = .ok (.aload_n 0, 1) := by decide +kernel
theorem dJ0_length_8abf5_6 : decode cJ0_length_8abf5 6 = .ok (.invokevirtual 335, 3) := by decide +kernel
theorem dJ0_length_8abf5_9 : decode cJ0_length_8abf5 9 = .ok (.ishr, 1) := by decide +kernel
theorem dJ0_length_8abf5_10 : decode cJ0_length_8abf5 10 = .ok (.ireturn, 1) := by decide +kernel
theorem dJ0_charAt_5068e_0 : decode cJ0_charAt_5068e 0 = .ok (.aload_n 0, 1) := by decide +kernel
theorem dJ0_charAt_5068e_1 : decode cJ0_charAt_5068e 1 = .ok (.invokevirtual 492, 3) := by decide +kernel
theorem dJ0_charAt_5068e_4 : decode cJ0_charAt_5068e 4 = .ok (.ifCond .eq 12, 3) := by decide +kernel
theorem dJ0_charAt_5068e_7 : decode cJ0_charAt_5068e 7 = .ok (.aload_n 0, 1) := by decide +kernel
theorem dJ0_charAt_5068e_8 : decode cJ0_charAt_5068e 8 = .ok (.getfield 9, 3) := by decide +kernel
theorem dJ0_charAt_5068e_11 : decode cJ0_charAt_5068e 11 = .ok (.iload_n 1, 1) := by decide +kernel
theorem dJ0_charAt_5068e_12 : decode cJ0_charAt_5068e 12 = .ok (.invokestatic 495, 3) := by decide +kernel
theorem dJ0_charAt_5068e_15 : decode cJ0_charAt_5068e 15 = .ok (.ireturn, 1) := by decide +kernel
theorem dJ0_charAt_5068e_16 : decode cJ0_charAt_5068e 16 = .ok (.aload_n 0, 1) := by decide +kernel
theorem dJ0_charAt_5068e_17 : decode cJ0_charAt_5068e 17 = .ok (.getfield 9, 3) := by decide +kernel
theorem dJ0_charAt_5068e_20 : decode cJ0_charAt_5068e 20 = .ok (.iload_n 1, 1) := by decide +kernel
theorem dJ0_charAt_5068e_21 : decode cJ0_charAt_5068e 21 = .ok (.invokestatic 498, 3) := by decide +kernel
theorem dJ0_charAt_5068e_24 : decode cJ0_charAt_5068e 24 = .ok (.ireturn, 1) := by decide +kernel
theorem dJ0_indexOf_0f7a4_0 : decode cJ0_indexOf_0f7a4 0 = .ok (.aload_n 0, 1) := by decide +kernel
theorem dJ0_indexOf_0f7a4_1 : decode cJ0_indexOf_0f7a4 1 = .ok (.iload_n 1, 1) := by decide +kernel
theorem dJ0_indexOf_0f7a4_2 : decode cJ0_indexOf_0f7a4 2 = .ok (.iconst 0, 1) := by decide +kernel
theorem dJ0_indexOf_0f7a4_3 : decode cJ0_indexOf_0f7a4 3 = .ok (.invokevirtual 633, 3) := by decide +kernel
theorem dJ0_indexOf_0f7a4_6 : decode cJ0_indexOf_0f7a4 6 = .ok (.ireturn, 1) := by decide +kernel
theorem dJ0_indexOf_7cf53_0 : decode cJ0_indexOf_7cf53 0 = .ok (.aload_n 0, 1) := by decide +kernel
theorem dJ0_indexOf_7cf53_1 : decode cJ0_indexOf_7cf53 1 = .ok (.invokevirtual 492, 3) := by decide +kernel
theorem dJ0_indexOf_7cf53_4 : decode cJ0_indexOf_7cf53 4 = .ok (.ifCond .eq 19, 3) := by decide +kernel
theorem dJ0_indexOf_7cf53_7 : decode cJ0_indexOf_7cf53 7 = .ok (.aload_n 0, 1) := by decide +kernel
theorem dJ0_indexOf_7cf53_8 : decode cJ0_indexOf_7cf53 8 = .ok (.getfield 9, 3) := by decide +kernel
theorem dJ0_indexOf_7cf53_11 : decode cJ0_indexOf_7cf53 11 = .ok (.iload_n 1, 1) := by decide +kernel
theorem dJ0_indexOf_7cf53_12 : decode cJ0_indexOf_7cf53 12 = .ok (.iload_n 2, 1) := by decide +kernel
theorem dJ0_indexOf_7cf53_13 : decode cJ0_indexOf_7cf53 13 = .ok (.aload_n 0, 1) := by decide +kernel
theorem dJ0_indexOf_7cf53_14 : decode cJ0_indexOf_7cf53 14 = .ok (.invokevirtual 505, 3) := by decide +kernel
theorem dJ0_indexOf_7cf53_17 : decode cJ0_indexOf_7cf53 17 = .ok (.invokestatic 637, 3) := by decide +kernel
theorem dJ0_indexOf_7cf53_20 : decode cJ0_indexOf_7cf53 20 = .ok (.goto 16, 3) := by decide +kernel
theorem dJ0_indexOf_7cf53_23 : decode cJ0_indexOf_7cf53 23 = .ok (.aload_n 0, 1) := by decide +kernel
theorem dJ0_indexOf_7cf53_24 : decode cJ0_indexOf_7cf53 24 = .ok (.getfield 9, 3) := by decide +kernel
theorem dJ0_indexOf_7cf53_27 : decode cJ0_indexOf_7cf53 27 = .ok (.iload_n 1, 1) := by decide +kernel
theorem dJ0_indexOf_7cf53_28 : decode cJ0_indexOf_7cf53 28 = .ok (.iload_n 2, 1) := by decide +kernel
theorem dJ0_indexOf_7cf53_29 : decode cJ0_indexOf_7cf53 29 = .ok (.aload_n 0, 1) := by decide +kernel
theorem dJ0_indexOf_7cf53_30 : decode cJ0_indexOf_7cf53 30 = .ok (.invokevirtual 505, 3) := by decide +kernel
theorem dJ0_indexOf_7cf53_33 : decode cJ0_indexOf_7cf53 33 = .ok (.invokestatic 640, 3) := by decide +kernel
theorem dJ0_indexOf_7cf53_36 : decode cJ0_indexOf_7cf53 36 = .ok (.ireturn, 1) := by decide +kernel
theorem dJ0_coder_7d493_0 : decode cJ0_coder_7d493 0 = .ok (.getstatic 38, 3) := by decide +kernel
theorem dJ0_coder_7d493_3 : decode cJ0_coder_7d493 3 = .ok (.ifCond .eq 10, 3) := by decide +kernel
theorem dJ0_coder_7d493_6 : decode cJ0_coder_7d493 6 = .ok (.aload_n 0, 1) := by decide +kernel
theorem dJ0_coder_7d493_7 : decode cJ0_coder_7d493 7 = .ok (.getfield 15, 3) := by decide +kernel
theorem dJ0_coder_7d493_10 : decode cJ0_coder_7d493 10 = .ok (.goto 4, 3) := by decide +kernel
theorem dJ0_coder_7d493_13 : decode cJ0_coder_7d493 13 = .ok (.iconst 1, 1) := by decide +kernel
theorem dJ0_coder_7d493_14 : decode cJ0_coder_7d493 14 = .ok (.ireturn, 1) := by decide +kernel
theorem dJ0_isLatin1_aae02_0 : decode cJ0_isLatin1_aae02 0 = .ok (.getstatic 38, 3) := by decide +kernel
theorem dJ0_isLatin1_aae02_3 : decode cJ0_isLatin1_aae02 3 = .ok (.ifCond .eq 14, 3) := by decide +kernel
theorem dJ0_isLatin1_aae02_6 : decode cJ0_isLatin1_aae02 6 = .ok (.aload_n 0, 1) := by decide +kernel
theorem dJ0_isLatin1_aae02_7 : decode cJ0_isLatin1_aae02 7 = .ok (.getfield 15, 3) := by decide +kernel
theorem dJ0_isLatin1_aae02_10 : decode cJ0_isLatin1_aae02 10 = .ok (.ifCond .ne 7, 3) := by decide +kernel
theorem dJ0_isLatin1_aae02_13 : decode cJ0_isLatin1_aae02 13 = .ok (.iconst 1, 1) := by decide +kernel
theorem dJ0_isLatin1_aae02_14 : decode cJ0_isLatin1_aae02 14 = .ok (.goto 4, 3) := by decide +kernel
theorem dJ0_isLatin1_aae02_17 : decode cJ0_isLatin1_aae02 17 = .ok (.iconst 0, 1) := by decide +kernel
theorem dJ0_isLatin1_aae02_18 : decode cJ0_isLatin1_aae02 18 = .ok (.ireturn, 1) := by decide +kernel
theorem dJ0_checkIndex_df160_0 : decode cJ0_checkIndex_df160 0 = .ok (.iload_n 0, 1) := by decide +kernel
theorem dJ0_checkIndex_df160_1 : decode cJ0_checkIndex_df160 1 = .ok (.iload_n 1, 1) := by decide +kernel
theorem dJ0_checkIndex_df160_2 : decode cJ0_checkIndex_df160 2 = .ok (.getstatic 1053, 3) := by decide +kernel
theorem dJ0_checkIndex_df160_5 : decode cJ0_checkIndex_df160 5 = .ok (.invokestatic 1059, 3) := by decide +kernel
theorem dJ0_checkIndex_df160_8 : decode cJ0_checkIndex_df160 8 = .ok (.pop, 1) := by decide +kernel
theorem dJ0_checkIndex_df160_9 : decode cJ0_checkIndex_df160 9 = .ok (.return_, 1) := by decide +kernel
theorem dJ0_checkBoundsBeginEnd_23922_0 : decode cJ0_checkBoundsBeginEnd_23922 0 = .ok (.iload_n 0, 1) := by decide +kernel
theorem dJ0_checkBoundsBeginEnd_23922_1 : decode cJ0_checkBoundsBeginEnd_23922 1 = .ok (.iload_n 1, 1) := by decide +kernel
theorem dJ0_checkBoundsBeginEnd_23922_2 : decode cJ0_checkBoundsBeginEnd_23922 2 = .ok (.iload_n 2, 1) := by decide +kernel
theorem dJ0_checkBoundsBeginEnd_23922_3 : decode cJ0_checkBoundsBeginEnd_23922 3 = .ok (.getstatic 1053, 3) := by decide +kernel
theorem dJ0_checkBoundsBeginEnd_23922_6 : decode cJ0_checkBoundsBeginEnd_23922 6 = .ok (.invokestatic 1062, 3) := by decide +kernel
theorem dJ0_checkBoundsBeginEnd_23922_9 : decode cJ0_checkBoundsBeginEnd_23922 9 = .ok (.pop, 1) := by decide +kernel
theorem dJ0_checkBoundsBeginEnd_23922_10 : decode cJ0_checkBoundsBeginEnd_23922 10 = .ok (.return_, 1) := by decide +kernel
theorem dJ1_charAt_3b067_0 : decode cJ1_charAt_3b067 0 = .ok (.iload_n 1, 1) := by decide +kernel
theorem dJ1_charAt_3b067_1 : decode cJ1_charAt_3b067 1 = .ok (.aload_n 0, 1) := by decide +kernel
theorem dJ1_charAt_3b067_2 : decode cJ1_charAt_3b067 2 = .ok (.arraylength, 1) := by decide +kernel
theorem dJ1_charAt_3b067_3 : decode cJ1_charAt_3b067 3 = .ok (.invokestatic 9, 3) := by decide +kernel
theorem dJ1_charAt_3b067_6 : decode cJ1_charAt_3b067 6 = .ok (.aload_n 0, 1) := by decide +kernel
theorem dJ1_charAt_3b067_7 : decode cJ1_charAt_3b067 7 = .ok (.iload_n 1, 1) := by decide +kernel
theorem dJ1_charAt_3b067_8 : decode cJ1_charAt_3b067 8 = .ok (.baload, 1) := by decide +kernel
theorem dJ1_charAt_3b067_9 : decode cJ1_charAt_3b067 9 = .ok (.sipush 255, 3) := by decide +kernel
theorem dJ1_charAt_3b067_12 : decode cJ1_charAt_3b067 12 = .ok (.iand, 1) := by decide +kernel
theorem dJ1_charAt_3b067_13 : decode cJ1_charAt_3b067 13 = .ok (.i2c, 1) := by decide +kernel
theorem dJ1_charAt_3b067_14 : decode cJ1_charAt_3b067 14 = .ok (.ireturn, 1) := by decide +kernel
theorem dJ1_canEncode_9a6ad_0 : decode cJ1_canEncode_9a6ad 0 = .ok (.iload_n 0, 1) := by decide +kernel
theorem dJ1_canEncode_9a6ad_1 : decode cJ1_canEncode_9a6ad 1 = .ok (.ifCond .lt 14, 3) := by decide +kernel
theorem dJ1_canEncode_9a6ad_4 : decode cJ1_canEncode_9a6ad 4 = .ok (.iload_n 0, 1) := by decide +kernel
theorem dJ1_canEncode_9a6ad_5 : decode cJ1_canEncode_9a6ad 5 = .ok (.sipush 255, 3) := by decide +kernel
theorem dJ1_canEncode_9a6ad_8 : decode cJ1_canEncode_9a6ad 8 = .ok (.if_icmp .gt 7, 3) := by decide +kernel
theorem dJ1_canEncode_9a6ad_11 : decode cJ1_canEncode_9a6ad 11 = .ok (.iconst 1, 1) := by decide +kernel
theorem dJ1_canEncode_9a6ad_12 : decode cJ1_canEncode_9a6ad 12 = .ok (.goto 4, 3) := by decide +kernel
theorem dJ1_canEncode_9a6ad_15 : decode cJ1_canEncode_9a6ad 15 = .ok (.iconst 0, 1) := by decide +kernel
theorem dJ1_canEncode_9a6ad_16 : decode cJ1_canEncode_9a6ad 16 = .ok (.ireturn, 1) := by decide +kernel
theorem dJ1_indexOf_4cfef_0 : decode cJ1_indexOf_4cfef 0 = .ok (.iload_n 1, 1) := by decide +kernel
theorem dJ1_indexOf_4cfef_1 : decode cJ1_indexOf_4cfef 1 = .ok (.invokestatic 88, 3) := by decide +kernel
theorem dJ1_indexOf_4cfef_4 : decode cJ1_indexOf_4cfef 4 = .ok (.ifCond .ne 5, 3) := by decide +kernel
theorem dJ1_indexOf_4cfef_7 : decode cJ1_indexOf_4cfef 7 = .ok (.iconst (-1), 1) := by decide +kernel
theorem dJ1_indexOf_4cfef_8 : decode cJ1_indexOf_4cfef 8 = .ok (.ireturn, 1) := by decide +kernel
theorem dJ1_indexOf_4cfef_9 : decode cJ1_indexOf_4cfef 9 = .ok (.iload_n 2, 1) := by decide +kernel
theorem dJ1_indexOf_4cfef_10 : decode cJ1_indexOf_4cfef 10 = .ok (.iconst 0, 1) := by decide +kernel
theorem dJ1_indexOf_4cfef_11 : decode cJ1_indexOf_4cfef 11 = .ok (.invokestatic 92, 3) := by decide +kernel
theorem dJ1_indexOf_4cfef_14 : decode cJ1_indexOf_4cfef 14 = .ok (.istore_n 2, 1) := by decide +kernel
theorem dJ1_indexOf_4cfef_15 : decode cJ1_indexOf_4cfef 15 = .ok (.iload_n 3, 1) := by decide +kernel
theorem dJ1_indexOf_4cfef_16 : decode cJ1_indexOf_4cfef 16 = .ok (.aload_n 0, 1) := by decide +kernel
theorem dJ1_indexOf_4cfef_17 : decode cJ1_indexOf_4cfef 17 = .ok (.arraylength, 1) := by decide +kernel
theorem dJ1_indexOf_4cfef_18 : decode cJ1_indexOf_4cfef 18 = .ok (.invokestatic 38, 3) := by decide +kernel
theorem dJ1_indexOf_4cfef_21 : decode cJ1_indexOf_4cfef 21 = .ok (.istore_n 3, 1) := by decide +kernel
theorem dJ1_indexOf_4cfef_22 : decode cJ1_indexOf_4cfef 22 = .ok (.iload_n 2, 1) := by decide +kernel
theorem dJ1_indexOf_4cfef_23 : decode cJ1_indexOf_4cfef 23 = .ok (.iload_n 3, 1) := by decide +kernel
theorem dJ1_indexOf_4cfef_24 : decode cJ1_indexOf_4cfef 24 = .ok (.if_icmp .lt 5, 3) := by decide +kernel
theorem dJ1_indexOf_4cfef_27 : decode cJ1_indexOf_4cfef 27 = .ok (.iconst (-1), 1) := by decide +kernel
theorem dJ1_indexOf_4cfef_28 : decode cJ1_indexOf_4cfef 28 = .ok (.ireturn, 1) := by decide +kernel
theorem dJ1_indexOf_4cfef_29 : decode cJ1_indexOf_4cfef 29 = .ok (.aload_n 0, 1) := by decide +kernel
theorem dJ1_indexOf_4cfef_30 : decode cJ1_indexOf_4cfef 30 = .ok (.iload_n 1, 1) := by decide +kernel
theorem dJ1_indexOf_4cfef_31 : decode cJ1_indexOf_4cfef 31 = .ok (.iload_n 2, 1) := by decide +kernel
theorem dJ1_indexOf_4cfef_32 : decode cJ1_indexOf_4cfef 32 = .ok (.iload_n 3, 1) := by decide +kernel
theorem dJ1_indexOf_4cfef_33 : decode cJ1_indexOf_4cfef 33 = .ok (.invokestatic 95, 3) := by decide +kernel
theorem dJ1_indexOf_4cfef_36 : decode cJ1_indexOf_4cfef 36 = .ok (.ireturn, 1) := by decide +kernel
theorem dJ1_indexOfChar_4cfef_0 : decode cJ1_indexOfChar_4cfef 0 = .ok (.iload_n 1, 1) := by decide +kernel
theorem dJ1_indexOfChar_4cfef_1 : decode cJ1_indexOfChar_4cfef 1 = .ok (.i2b, 1) := by decide +kernel
theorem dJ1_indexOfChar_4cfef_2 : decode cJ1_indexOfChar_4cfef 2 = .ok (.istore 4, 2) := by decide +kernel
theorem dJ1_indexOfChar_4cfef_4 : decode cJ1_indexOfChar_4cfef 4 = .ok (.iload_n 2, 1) := by decide +kernel
theorem dJ1_indexOfChar_4cfef_5 : decode cJ1_indexOfChar_4cfef 5 = .ok (.istore 5, 2) := by decide +kernel
theorem dJ1_indexOfChar_4cfef_7 : decode cJ1_indexOfChar_4cfef 7 = .ok (.iload 5, 2) := by decide +kernel
theorem dJ1_indexOfChar_4cfef_9 : decode cJ1_indexOfChar_4cfef 9 = .ok (.iload_n 3, 1) := by decide +kernel
theorem dJ1_indexOfChar_4cfef_10 : decode cJ1_indexOfChar_4cfef 10 = .ok (.if_icmp .ge 21, 3) := by decide +kernel
theorem dJ1_indexOfChar_4cfef_13 : decode cJ1_indexOfChar_4cfef 13 = .ok (.aload_n 0, 1) := by decide +kernel
theorem dJ1_indexOfChar_4cfef_14 : decode cJ1_indexOfChar_4cfef 14 = .ok (.iload 5, 2) := by decide +kernel
theorem dJ1_indexOfChar_4cfef_16 : decode cJ1_indexOfChar_4cfef 16 = .ok (.baload, 1) := by decide +kernel
theorem dJ1_indexOfChar_4cfef_17 : decode cJ1_indexOfChar_4cfef 17 = .ok (.iload 4, 2) := by decide +kernel
theorem dJ1_indexOfChar_4cfef_19 : decode cJ1_indexOfChar_4cfef 19 = .ok (.if_icmp .ne 6, 3) := by decide +kernel
theorem dJ1_indexOfChar_4cfef_22 : decode cJ1_indexOfChar_4cfef 22 = .ok (.iload 5, 2) := by decide +kernel
theorem dJ1_indexOfChar_4cfef_24 : decode cJ1_indexOfChar_4cfef 24 = .ok (.ireturn, 1) := by decide +kernel
theorem dJ1_indexOfChar_4cfef_25 : decode cJ1_indexOfChar_4cfef 25 = .ok (.iinc 5 1, 3) := by decide +kernel
theorem dJ1_indexOfChar_4cfef_28 : decode cJ1_indexOfChar_4cfef 28 = .ok (.goto (-21), 3) := by decide +kernel
theorem dJ1_indexOfChar_4cfef_31 : decode cJ1_indexOfChar_4cfef 31 = .ok (.iconst (-1), 1) := by decide +kernel
theorem dJ1_indexOfChar_4cfef_32 : decode cJ1_indexOfChar_4cfef 32 = .ok (.ireturn, 1) := by decide +kernel
theorem dJ2_getChar_3b067_0 : decode cJ2_getChar_3b067 0 = .ok (.getstatic 44, 3) := by decide +kernel
theorem dJ2_getChar_3b067_3 : decode cJ2_getChar_3b067 3 = .ok (.ifCond .ne 25, 3) := by decide +kernel
theorem dJ2_getChar_3b067_6 : decode cJ2_getChar_3b067 6 = .ok (.iload_n 1, 1) := by decide +kernel
theorem dJ2_getChar_3b067_7 : decode cJ2_getChar_3b067 7 = .ok (.ifCond .lt 11, 3) := by decide +kernel
theorem dJ2_getChar_3b067_10 : decode cJ2_getChar_3b067 10 = .ok (.iload_n 1, 1) := by decide +kernel
theorem dJ2_getChar_3b067_11 : decode cJ2_getChar_3b067 11 = .ok (.aload_n 0, 1) := by decide +kernel
theorem dJ2_getChar_3b067_12 : decode cJ2_getChar_3b067 12 = .ok (.invokestatic 48, 3) := by decide +kernel
theorem dJ2_getChar_3b067_15 : decode cJ2_getChar_3b067 15 = .ok (.if_icmp .lt 13, 3) := by decide +kernel
theorem dJ2_getChar_3b067_18 : decode cJ2_getChar_3b067 18 = .ok (.new 52, 3) := by decide +kernel
theorem dJ2_getChar_3b067_21 : decode cJ2_getChar_3b067 21 = .ok (.dup, 1) := by decide +kernel
theorem dJ2_getChar_3b067_22 : decode cJ2_getChar_3b067 22 = .ok (.ldc 54, 2) := by decide +kernel
theorem dJ2_getChar_3b067_24 : decode cJ2_getChar_3b067 24 = .ok (.invokespecial 56, 3) := by decide +kernel
theorem dJ2_getChar_3b067_27 : decode cJ2_getChar_3b067 27 = .ok (.athrow, 1) := by decide +kernel
theorem dJ2_getChar_3b067_28 : decode cJ2_getChar_3b067 28 = .ok (.iload_n 1, 1) := by decide +kernel
theorem dJ2_getChar_3b067_29 : decode cJ2_getChar_3b067 29 = .ok (.iconst 1, 1) := by decide +kernel
theorem dJ2_getChar_3b067_30 : decode cJ2_getChar_3b067 30 = .ok (.ishl, 1) := by decide +kernel
theorem dJ2_getChar_3b067_31 : decode cJ2_getChar_3b067 31 = .ok (.istore_n 1, 1) := by decide +kernel
theorem dJ2_getChar_3b067_32 : decode cJ2_getChar_3b067 32 = .ok (.aload_n 0, 1) := by decide +kernel
theorem dJ2_getChar_3b067_33 : decode cJ2_getChar_3b067 33 = .ok (.iload_n 1, 1) := by decide +kernel
theorem dJ2_getChar_3b067_34 : decode cJ2_getChar_3b067 34 = .ok (.iinc 1 1, 3) := by decide +kernel
theorem dJ2_getChar_3b067_37 : decode cJ2_getChar_3b067 37 = .ok (.baload, 1) := by decide +kernel
theorem dJ2_getChar_3b067_38 : decode cJ2_getChar_3b067 38 = .ok (.sipush 255, 3) := by decide +kernel
theorem dJ2_getChar_3b067_41 : decode cJ2_getChar_3b067 41 = .ok (.iand, 1) := by decide +kernel
theorem dJ2_getChar_3b067_42 : decode cJ2_getChar_3b067 42 = .ok (.getstatic 59, 3) := by decide +kernel
theorem dJ2_getChar_3b067_45 : decode cJ2_getChar_3b067 45 = .ok (.ishl, 1) := by decide +kernel
theorem dJ2_getChar_3b067_46 : decode cJ2_getChar_3b067 46 = .ok (.aload_n 0, 1) := by decide +kernel
theorem dJ2_getChar_3b067_47 : decode cJ2_getChar_3b067 47 = .ok (.iload_n 1, 1) := by decide +kernel
theorem dJ2_getChar_3b067_48 : decode cJ2_getChar_3b067 48 = .ok (.baload, 1) := by decide +kernel
theorem dJ2_getChar_3b067_49 : decode cJ2_getChar_3b067 49 = .ok (.sipush 255, 3) := by decide +kernel
theorem dJ2_getChar_3b067_52 : decode cJ2_getChar_3b067 52 = .ok (.iand, 1) := by decide +kernel
theorem dJ2_getChar_3b067_53 : decode cJ2_getChar_3b067 53 = .ok (.getstatic 63, 3) := by decide +kernel
theorem dJ2_getChar_3b067_56 : decode cJ2_getChar_3b067 56 = .ok (.ishl, 1) := by decide +kernel
theorem dJ2_getChar_3b067_57 : decode cJ2_getChar_3b067 57 = .ok (.ior, 1) := by decide +kernel
theorem dJ2_getChar_3b067_58 : decode cJ2_getChar_3b067 58 = .ok (.i2c, 1) := by decide +kernel
theorem dJ2_getChar_3b067_59 : decode cJ2_getChar_3b067 59 = .ok (.ireturn, 1) := by decide +kernel
theorem dJ2_length_9d52b_0 : decode cJ2_length_9d52b 0 = .ok (.aload_n 0, 1) := by decide +kernel
theorem dJ2_length_9d52b_1 : decode cJ2_length_9d52b 1 = .ok (.arraylength, 1) := by decide +kernel
theorem dJ2_length_9d52b_2 : decode cJ2_length_9d52b 2 = .ok (.iconst 1, 1) := by decide +kernel
theorem dJ2_length_9d52b_3 : decode cJ2_length_9d52b 3 = .ok (.ishr, 1) := by decide +kernel
theorem dJ2_length_9d52b_4 : decode cJ2_length_9d52b 4 = .ok (.ireturn, 1) := by decide +kernel
theorem dJ2_indexOf_4cfef_0 : decode cJ2_indexOf_4cfef 0 = .ok (.iload_n 2, 1) := by decide +kernel
theorem dJ2_indexOf_4cfef_1 : decode cJ2_indexOf_4cfef 1 = .ok (.iconst 0, 1) := by decide +kernel
theorem dJ2_indexOf_4cfef_2 : decode cJ2_indexOf_4cfef 2 = .ok (.invokestatic 224, 3) := by decide +kernel
theorem dJ2_indexOf_4cfef_5 : decode cJ2_indexOf_4cfef 5 = .ok (.istore_n 2, 1) := by decide +kernel
theorem dJ2_indexOf_4cfef_6 : decode cJ2_indexOf_4cfef 6 = .ok (.iload_n 3, 1) := by decide +kernel
theorem dJ2_indexOf_4cfef_7 : decode cJ2_indexOf_4cfef 7 = .ok (.aload_n 0, 1) := by decide +kernel
theorem dJ2_indexOf_4cfef_8 : decode cJ2_indexOf_4cfef 8 = .ok (.arraylength, 1) := by decide +kernel
theorem dJ2_indexOf_4cfef_9 : decode cJ2_indexOf_4cfef 9 = .ok (.iconst 1, 1) := by decide +kernel
theorem dJ2_indexOf_4cfef_10 : decode cJ2_indexOf_4cfef 10 = .ok (.ishr, 1) := by decide +kernel
theorem dJ2_indexOf_4cfef_11 : decode cJ2_indexOf_4cfef 11 = .ok (.invokestatic 183, 3) := by decide +kernel
theorem dJ2_indexOf_4cfef_14 : decode cJ2_indexOf_4cfef 14 = .ok (.istore_n 3, 1) := by decide +kernel
theorem dJ2_indexOf_4cfef_15 : decode cJ2_indexOf_4cfef 15 = .ok (.iload_n 2, 1) := by decide +kernel
theorem dJ2_indexOf_4cfef_16 : decode cJ2_indexOf_4cfef 16 = .ok (.iload_n 3, 1) := by decide +kernel
theorem dJ2_indexOf_4cfef_17 : decode cJ2_indexOf_4cfef 17 = .ok (.if_icmp .lt 5, 3) := by decide +kernel
theorem dJ2_indexOf_4cfef_20 : decode cJ2_indexOf_4cfef 20 = .ok (.iconst (-1), 1) := by decide +kernel
theorem dJ2_indexOf_4cfef_21 : decode cJ2_indexOf_4cfef 21 = .ok (.ireturn, 1) := by decide +kernel
theorem dJ2_indexOf_4cfef_22 : decode cJ2_indexOf_4cfef 22 = .ok (.iload_n 1, 1) := by decide +kernel
theorem dJ2_indexOf_4cfef_23 : decode cJ2_indexOf_4cfef 23 = .ok (.ldc 227, 2) := by decide +kernel
theorem dJ2_indexOf_4cfef_25 : decode cJ2_indexOf_4cfef 25 = .ok (.if_icmp .ge 11, 3) := by decide +kernel
theorem dJ2_indexOf_4cfef_28 : decode cJ2_indexOf_4cfef 28 = .ok (.aload_n 0, 1) := by decide +kernel
theorem dJ2_indexOf_4cfef_29 : decode cJ2_indexOf_4cfef 29 = .ok (.iload_n 1, 1) := by decide +kernel
theorem dJ2_indexOf_4cfef_30 : decode cJ2_indexOf_4cfef 30 = .ok (.iload_n 2, 1) := by decide +kernel
theorem dJ2_indexOf_4cfef_31 : decode cJ2_indexOf_4cfef 31 = .ok (.iload_n 3, 1) := by decide +kernel
theorem dJ2_indexOf_4cfef_32 : decode cJ2_indexOf_4cfef 32 = .ok (.invokestatic 228, 3) := by decide +kernel
theorem dJ2_indexOf_4cfef_35 : decode cJ2_indexOf_4cfef 35 = .ok (.ireturn, 1) := by decide +kernel
theorem dJ2_indexOf_4cfef_36 : decode cJ2_indexOf_4cfef 36 = .ok (.aload_n 0, 1) := by decide +kernel
theorem dJ2_indexOf_4cfef_37 : decode cJ2_indexOf_4cfef 37 = .ok (.iload_n 1, 1) := by decide +kernel
theorem dJ2_indexOf_4cfef_38 : decode cJ2_indexOf_4cfef 38 = .ok (.iload_n 2, 1) := by decide +kernel
theorem dJ2_indexOf_4cfef_39 : decode cJ2_indexOf_4cfef 39 = .ok (.iload_n 3, 1) := by decide +kernel
theorem dJ2_indexOf_4cfef_40 : decode cJ2_indexOf_4cfef 40 = .ok (.invokestatic 232, 3) := by decide +kernel
theorem dJ2_indexOf_4cfef_43 : decode cJ2_indexOf_4cfef 43 = .ok (.ireturn, 1) := by decide +kernel
theorem dJ2_indexOfChar_4cfef_0 : decode cJ2_indexOfChar_4cfef 0 = .ok (.iload_n 2, 1) := by decide +kernel
theorem dJ2_indexOfChar_4cfef_1 : decode cJ2_indexOfChar_4cfef 1 = .ok (.iload_n 3, 1) := by decide +kernel
theorem dJ2_indexOfChar_4cfef_2 : decode cJ2_indexOfChar_4cfef 2 = .ok (.aload_n 0, 1) := by decide +kernel
theorem dJ2_indexOfChar_4cfef_3 : decode cJ2_indexOfChar_4cfef 3 = .ok (.invokestatic 96, 3) := by decide +kernel
theorem dJ2_indexOfChar_4cfef_6 : decode cJ2_indexOfChar_4cfef 6 = .ok (.aload_n 0, 1) := by decide +kernel
theorem dJ2_indexOfChar_4cfef_7 : decode cJ2_indexOfChar_4cfef 7 = .ok (.iload_n 1, 1) := by decide +kernel
theorem dJ2_indexOfChar_4cfef_8 : decode cJ2_indexOfChar_4cfef 8 = .ok (.iload_n 2, 1) := by decide +kernel
